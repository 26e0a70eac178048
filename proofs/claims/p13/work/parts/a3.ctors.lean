section
set_option maxHeartbeats 4000000 in
set_option maxRecDepth 100000 in
theorem x_told (l : Launch) (D : va_G) (k : Nat → ClassId) (hx1 : Nat) (ta : Nat) (hw1 : Nat) (hw12 : Nat) (ka : Nat) (hr1 : Nat) (hq : Nat) (hv : Nat) (h : Nat) (hn1 : Nat) (hL : Nat) (li : Nat) (ev : Int) (mk : Int) (ou : Int) (up : Int64) (lo : Int64) (fs : List Value) (hs : Nat) (hf : Nat) (hg : Nat) (hc : Nat) (hy : Nat) (n : Int) (ni : Int) (lw : Int) (f : Nat → Int32) (g : Nat → Int32) (cw : Nat) (cg : Nat) (cs : Nat) (ck : Nat) (wk : Int) (od : Int) (wf : Nat → Int32) (gf : Nat → Int32) (sf : Nat → Int32) (kf0 : Nat → Int32) (x1 : Int) (f1 : fs[1]? = some (.ref hf)) (f2 : fs[2]? = some (.ref hg)) (f3 : fs[3]? = some (.int (iZ n))) (f4 : fs[4]? = some (.int (iZ ni))) (f5 : fs[5]? = some (.int (iZ lw))) (hn : n ≤ 6) (hx0 : FXI f n) (hni : 0 ≤ ni ∧ ni ≤ 8) (hn0 : 0 ≤ n) (hlw : -2147483648 ≤ lw ∧ lw < 2147483648) (hwk : 0 ≤ wk ∧ wk ≤ 400) (hod : 0 ≤ od ∧ od ≤ 20) (rgg0 : rgI gf 0 (n - 1) od) (h9x1 : -2147483648 ≤ x1 ∧ x1 < 2147483648) : WD (σ := ((Int × Int) × (Int64) × (Unit) × (Unit))) l yX11_told cX11_told 2 (some .int) 2 0 0 D k [.ref hx1, .int (iZ x1)] [(hx1, .inr (11, [.ref ta, .ref hw1, .ref hw12, .ref ka, .ref hr1, .ref hq, .ref hv, .ref h, .ref hn1, .ref hL, .ref li, .int (iZ ev), .int (iZ mk), .int (iZ ou), .long up, .long lo])), (hw1, .inr (8, [.ref hs, .ref hc, .ref hy])), (hc, .inr (0, [.ref cw, .ref cg, .ref cs, .ref ck, .int (iZ wk), .int (iZ od)])), (cw, .inl (k 1, 401, .inl wf)), (cg, .inl (k 1, 20, .inl gf)), (cs, .inl (k 1, 20, .inl sf)), (ck, .inl (k 1, 120, .inl kf0)), (hs, .inr (5, fs)), (hf, .inl (k 1, 36, .inl f)), (hg, .inl (k 1, 32, .inl g))] (fun u => some (.int (iZ u.1.1))) (fun u => (((0 ≤ x1 ∧ x1 ≤ 5)) ∧ ((x1 = 0 ∧ u.1.1 = n) ∨ (x1 = 1 ∧ u.1.1 = ni) ∨ (x1 = 2 ∧ u.1.1 = lw) ∨ (x1 = 3 ∧ u.1.1 = wk) ∨ (x1 = 4 ∧ u.1.1 = od) ∨ (x1 = 5 ∧ u.1.1 = gz wf wk))) ∨ (¬ ((0 ≤ x1 ∧ x1 ≤ 5)) ∧ (u.1.1 : Int) = -1)) (fun u => [(hx1, .inr (11, [.ref ta, .ref hw1, .ref hw12, .ref ka, .ref hr1, .ref hq, .ref hv, .ref h, .ref hn1, .ref hL, .ref li, .int (iZ ev), .int (iZ mk), .int (iZ u.1.2), .long up, .long lo])), (hw1, .inr (8, [.ref hs, .ref hc, .ref hy])), (hc, .inr (0, [.ref cw, .ref cg, .ref cs, .ref ck, .int (iZ wk), .int (iZ od)])), (cw, .inl (k 1, 401, .inl wf)), (cg, .inl (k 1, 20, .inl gf)), (cs, .inl (k 1, 20, .inl sf)), (ck, .inl (k 1, 120, .inl kf0)), (hs, .inr (5, fs)), (hf, .inl (k 1, 36, .inl f)), (hg, .inl (k 1, 32, .inl g))]) := by
  refine MW (by decide) (Nat.le_of_ble_eq_true rfl) (fun p e s m below meth c ls A hx hb hml hr hlocks hin hts hown hKK hP hD hS hA hl => ?_)
  have hK := hKK.1
  have hl : lv_has ls 2 [(0, .ref hx1), (1, .int (iZ x1))] := hl
  refine lv_iload_n hx hb dX11_told_0 rfl (lv_at hl 1 rfl) ?_
  rcases Classical.em (x1 = 0) with c_1 | c_1
  ·
    refine lv_tableIn (tgt := 40) (off := 39) hx hb dX11_told_1 (by rw [iZ_ti ⟨by omega, by omega⟩]; omega) (by rw [iZ_ti ⟨by omega, by omega⟩]; omega) (by rw [iZ_ti ⟨by omega, by omega⟩, c_1]; rfl) (by decide) ?_
    refine lv_aload_n hx hb dX11_told_40 rfl (lv_at hl 0 rfl) ?_
    refine lv_aload_n hx hb dX11_told_41 rfl (lv_at hl 0 rfl) ?_
    refine va_get (D := D) (ci := 11) (v := .ref hw1) (C := RX11) (T := TX11) (N := 16) hx hb hts iX11 hown hK hP 0 rfl rfl 1 (bl rfl) (hts _ qf_X11_18) (fun _ h => h) rfl dX11_told_42 ?_
    refine va_get (D := D) (ci := 8) (v := .ref hs) (C := RX8) (T := TX8) (N := 3) hx hb hts iX8 hown hK hP 1 rfl rfl 0 (bl rfl) (hts _ qf_X11_54) (fun _ h => h) rfl dX11_told_45 ?_
    refine va_get (D := D) (ci := 5) (v := .int (iZ n)) (C := RX5) (T := TX5) (N := 7) hx hb hts iX5 hown hK hP 7 rfl rfl 3 (bl rfl) (hts _ qf_X11_169) (fun _ h => h) f3 dX11_told_48 ?_
    refine CWV (As := [.int (iZ n)]) (rest := []) (wc := _) (wr := [(hw1, .inr (8, [.ref hs, .ref hc, .ref hy])), (hc, .inr (0, [.ref cw, .ref cg, .ref cs, .ref ck, .int (iZ wk), .int (iZ od)])), (cw, .inl (k 1, 401, .inl wf)), (cg, .inl (k 1, 20, .inl gf)), (cs, .inl (k 1, 20, .inl sf)), (ck, .inl (k 1, 120, .inl kf0)), (hs, .inr (5, fs)), (hf, .inl (k 1, 36, .inl f)), (hg, .inl (k 1, 32, .inl g))]) hx hb hml hown hts hKK hP hD hS hA (k_answer l D k hx1 ta hw1 hw12 ka hr1 hq hv h hn1 hL li ev mk ou up lo n) ci_X11_answer qm_X11_174 ⟨Nat.le_of_ble_eq_true rfl, Nat.le_of_ble_eq_true rfl⟩ ⟨Nat.le_of_ble_eq_true rfl, Nat.le_of_ble_eq_true rfl⟩ [0] [1, 2, 3, 4, 5, 6, 7, 8, 9] rfl rfl rfl rfl rfl (dj rfl) 0 rfl rfl rfl hl.1 rfl (Nat.le_of_ble_eq_true rfl) dX11_told_51 (fun u_2 H locs hφ hP hD hS => ?_)
    refine W.eq (g2 := F0 m 54 ls [.int (iZ n)]) rfl ?_
    exact EWi hx hb hr hlocks hS ((n, 0), 0, (), ()) rfl (show (((0 ≤ x1 ∧ x1 ≤ 5)) ∧ ((x1 = 0 ∧ n = n) ∨ (x1 = 1 ∧ n = ni) ∨ (x1 = 2 ∧ n = lw) ∨ (x1 = 3 ∧ n = wk) ∨ (x1 = 4 ∧ n = od) ∨ (x1 = 5 ∧ n = gz wf wk))) ∨ (¬ ((0 ≤ x1 ∧ x1 ≤ 5)) ∧ (n : Int) = -1) from (Or.inl ⟨by omega, (by omega)⟩)) (hP.sub [9, 0, 1, 2, 3, 4, 5, 6, 7, 8] rfl) (hD.sub [9, 0, 1, 2, 3, 4, 5, 6, 7, 8] rfl rfl) dX11_told_54
  ·
    rcases Classical.em (x1 = 1) with c_3 | c_3
    ·
      refine lv_tableIn (tgt := 55) (off := 54) hx hb dX11_told_1 (by rw [iZ_ti ⟨by omega, by omega⟩]; omega) (by rw [iZ_ti ⟨by omega, by omega⟩]; omega) (by rw [iZ_ti ⟨by omega, by omega⟩, c_3]; rfl) (by decide) ?_
      refine lv_aload_n hx hb dX11_told_55 rfl (lv_at hl 0 rfl) ?_
      refine lv_aload_n hx hb dX11_told_56 rfl (lv_at hl 0 rfl) ?_
      refine va_get (D := D) (ci := 11) (v := .ref hw1) (C := RX11) (T := TX11) (N := 16) hx hb hts iX11 hown hK hP 0 rfl rfl 1 (bl rfl) (hts _ qf_X11_18) (fun _ h => h) rfl dX11_told_57 ?_
      refine va_get (D := D) (ci := 8) (v := .ref hs) (C := RX8) (T := TX8) (N := 3) hx hb hts iX8 hown hK hP 1 rfl rfl 0 (bl rfl) (hts _ qf_X11_54) (fun _ h => h) rfl dX11_told_60 ?_
      refine va_get (D := D) (ci := 5) (v := .int (iZ ni)) (C := RX5) (T := TX5) (N := 7) hx hb hts iX5 hown hK hP 7 rfl rfl 4 (bl rfl) (hts _ qf_X11_199) (fun _ h => h) f4 dX11_told_63 ?_
      refine CWV (As := [.int (iZ ni)]) (rest := []) (wc := _) (wr := [(hw1, .inr (8, [.ref hs, .ref hc, .ref hy])), (hc, .inr (0, [.ref cw, .ref cg, .ref cs, .ref ck, .int (iZ wk), .int (iZ od)])), (cw, .inl (k 1, 401, .inl wf)), (cg, .inl (k 1, 20, .inl gf)), (cs, .inl (k 1, 20, .inl sf)), (ck, .inl (k 1, 120, .inl kf0)), (hs, .inr (5, fs)), (hf, .inl (k 1, 36, .inl f)), (hg, .inl (k 1, 32, .inl g))]) hx hb hml hown hts hKK hP hD hS hA (k_answer l D k hx1 ta hw1 hw12 ka hr1 hq hv h hn1 hL li ev mk ou up lo ni) ci_X11_answer qm_X11_174 ⟨Nat.le_of_ble_eq_true rfl, Nat.le_of_ble_eq_true rfl⟩ ⟨Nat.le_of_ble_eq_true rfl, Nat.le_of_ble_eq_true rfl⟩ [0] [1, 2, 3, 4, 5, 6, 7, 8, 9] rfl rfl rfl rfl rfl (dj rfl) 0 rfl rfl rfl hl.1 rfl (Nat.le_of_ble_eq_true rfl) dX11_told_66 (fun u_4 H locs hφ hP hD hS => ?_)
      refine W.eq (g2 := F0 m 69 ls [.int (iZ ni)]) rfl ?_
      exact EWi hx hb hr hlocks hS ((ni, 0), 0, (), ()) rfl (show (((0 ≤ x1 ∧ x1 ≤ 5)) ∧ ((x1 = 0 ∧ ni = n) ∨ (x1 = 1 ∧ ni = ni) ∨ (x1 = 2 ∧ ni = lw) ∨ (x1 = 3 ∧ ni = wk) ∨ (x1 = 4 ∧ ni = od) ∨ (x1 = 5 ∧ ni = gz wf wk))) ∨ (¬ ((0 ≤ x1 ∧ x1 ≤ 5)) ∧ (ni : Int) = -1) from (Or.inl ⟨by omega, (by omega)⟩)) (hP.sub [9, 0, 1, 2, 3, 4, 5, 6, 7, 8] rfl) (hD.sub [9, 0, 1, 2, 3, 4, 5, 6, 7, 8] rfl rfl) dX11_told_69
    ·
      rcases Classical.em (x1 = 2) with c_5 | c_5
      ·
        refine lv_tableIn (tgt := 70) (off := 69) hx hb dX11_told_1 (by rw [iZ_ti ⟨by omega, by omega⟩]; omega) (by rw [iZ_ti ⟨by omega, by omega⟩]; omega) (by rw [iZ_ti ⟨by omega, by omega⟩, c_5]; rfl) (by decide) ?_
        refine lv_aload_n hx hb dX11_told_70 rfl (lv_at hl 0 rfl) ?_
        refine lv_aload_n hx hb dX11_told_71 rfl (lv_at hl 0 rfl) ?_
        refine va_get (D := D) (ci := 11) (v := .ref hw1) (C := RX11) (T := TX11) (N := 16) hx hb hts iX11 hown hK hP 0 rfl rfl 1 (bl rfl) (hts _ qf_X11_18) (fun _ h => h) rfl dX11_told_72 ?_
        refine va_get (D := D) (ci := 8) (v := .ref hs) (C := RX8) (T := TX8) (N := 3) hx hb hts iX8 hown hK hP 1 rfl rfl 0 (bl rfl) (hts _ qf_X11_54) (fun _ h => h) rfl dX11_told_75 ?_
        refine va_get (D := D) (ci := 5) (v := .int (iZ lw)) (C := RX5) (T := TX5) (N := 7) hx hb hts iX5 hown hK hP 7 rfl rfl 5 (bl rfl) (hts _ qf_X11_202) (fun _ h => h) f5 dX11_told_78 ?_
        refine CWV (As := [.int (iZ lw)]) (rest := []) (wc := _) (wr := [(hw1, .inr (8, [.ref hs, .ref hc, .ref hy])), (hc, .inr (0, [.ref cw, .ref cg, .ref cs, .ref ck, .int (iZ wk), .int (iZ od)])), (cw, .inl (k 1, 401, .inl wf)), (cg, .inl (k 1, 20, .inl gf)), (cs, .inl (k 1, 20, .inl sf)), (ck, .inl (k 1, 120, .inl kf0)), (hs, .inr (5, fs)), (hf, .inl (k 1, 36, .inl f)), (hg, .inl (k 1, 32, .inl g))]) hx hb hml hown hts hKK hP hD hS hA (k_answer l D k hx1 ta hw1 hw12 ka hr1 hq hv h hn1 hL li ev mk ou up lo lw) ci_X11_answer qm_X11_174 ⟨Nat.le_of_ble_eq_true rfl, Nat.le_of_ble_eq_true rfl⟩ ⟨Nat.le_of_ble_eq_true rfl, Nat.le_of_ble_eq_true rfl⟩ [0] [1, 2, 3, 4, 5, 6, 7, 8, 9] rfl rfl rfl rfl rfl (dj rfl) 0 rfl rfl rfl hl.1 rfl (Nat.le_of_ble_eq_true rfl) dX11_told_81 (fun u_6 H locs hφ hP hD hS => ?_)
        refine W.eq (g2 := F0 m 84 ls [.int (iZ lw)]) rfl ?_
        exact EWi hx hb hr hlocks hS ((lw, 0), 0, (), ()) rfl (show (((0 ≤ x1 ∧ x1 ≤ 5)) ∧ ((x1 = 0 ∧ lw = n) ∨ (x1 = 1 ∧ lw = ni) ∨ (x1 = 2 ∧ lw = lw) ∨ (x1 = 3 ∧ lw = wk) ∨ (x1 = 4 ∧ lw = od) ∨ (x1 = 5 ∧ lw = gz wf wk))) ∨ (¬ ((0 ≤ x1 ∧ x1 ≤ 5)) ∧ (lw : Int) = -1) from (Or.inl ⟨by omega, (by omega)⟩)) (hP.sub [9, 0, 1, 2, 3, 4, 5, 6, 7, 8] rfl) (hD.sub [9, 0, 1, 2, 3, 4, 5, 6, 7, 8] rfl rfl) dX11_told_84
      ·
        rcases Classical.em (x1 = 3) with c_7 | c_7
        ·
          refine lv_tableIn (tgt := 85) (off := 84) hx hb dX11_told_1 (by rw [iZ_ti ⟨by omega, by omega⟩]; omega) (by rw [iZ_ti ⟨by omega, by omega⟩]; omega) (by rw [iZ_ti ⟨by omega, by omega⟩, c_7]; rfl) (by decide) ?_
          refine lv_aload_n hx hb dX11_told_85 rfl (lv_at hl 0 rfl) ?_
          refine lv_aload_n hx hb dX11_told_86 rfl (lv_at hl 0 rfl) ?_
          refine va_get (D := D) (ci := 11) (v := .ref hw1) (C := RX11) (T := TX11) (N := 16) hx hb hts iX11 hown hK hP 0 rfl rfl 1 (bl rfl) (hts _ qf_X11_18) (fun _ h => h) rfl dX11_told_87 ?_
          refine va_get (D := D) (ci := 8) (v := .ref hc) (C := RX8) (T := TX8) (N := 3) hx hb hts iX8 hown hK hP 1 rfl rfl 1 (bl rfl) (hts _ qf_X11_205) (fun _ h => h) rfl dX11_told_90 ?_
          refine va_get (D := D) (ci := 0) (v := .int (iZ wk)) (C := RX0) (T := TX0) (N := 6) hx hb hts iX0 hown hK hP 2 rfl rfl 4 (bl rfl) (hts _ qf_X11_209) (fun _ h => h) rfl dX11_told_93 ?_
          refine CWV (As := [.int (iZ wk)]) (rest := []) (wc := _) (wr := [(hw1, .inr (8, [.ref hs, .ref hc, .ref hy])), (hc, .inr (0, [.ref cw, .ref cg, .ref cs, .ref ck, .int (iZ wk), .int (iZ od)])), (cw, .inl (k 1, 401, .inl wf)), (cg, .inl (k 1, 20, .inl gf)), (cs, .inl (k 1, 20, .inl sf)), (ck, .inl (k 1, 120, .inl kf0)), (hs, .inr (5, fs)), (hf, .inl (k 1, 36, .inl f)), (hg, .inl (k 1, 32, .inl g))]) hx hb hml hown hts hKK hP hD hS hA (k_answer l D k hx1 ta hw1 hw12 ka hr1 hq hv h hn1 hL li ev mk ou up lo wk) ci_X11_answer qm_X11_174 ⟨Nat.le_of_ble_eq_true rfl, Nat.le_of_ble_eq_true rfl⟩ ⟨Nat.le_of_ble_eq_true rfl, Nat.le_of_ble_eq_true rfl⟩ [0] [1, 2, 3, 4, 5, 6, 7, 8, 9] rfl rfl rfl rfl rfl (dj rfl) 0 rfl rfl rfl hl.1 rfl (Nat.le_of_ble_eq_true rfl) dX11_told_96 (fun u_8 H locs hφ hP hD hS => ?_)
          refine W.eq (g2 := F0 m 99 ls [.int (iZ wk)]) rfl ?_
          exact EWi hx hb hr hlocks hS ((wk, 0), 0, (), ()) rfl (show (((0 ≤ x1 ∧ x1 ≤ 5)) ∧ ((x1 = 0 ∧ wk = n) ∨ (x1 = 1 ∧ wk = ni) ∨ (x1 = 2 ∧ wk = lw) ∨ (x1 = 3 ∧ wk = wk) ∨ (x1 = 4 ∧ wk = od) ∨ (x1 = 5 ∧ wk = gz wf wk))) ∨ (¬ ((0 ≤ x1 ∧ x1 ≤ 5)) ∧ (wk : Int) = -1) from (Or.inl ⟨by omega, (by omega)⟩)) (hP.sub [9, 0, 1, 2, 3, 4, 5, 6, 7, 8] rfl) (hD.sub [9, 0, 1, 2, 3, 4, 5, 6, 7, 8] rfl rfl) dX11_told_99
        ·
          rcases Classical.em (x1 = 4) with c_9 | c_9
          ·
            refine lv_tableIn (tgt := 100) (off := 99) hx hb dX11_told_1 (by rw [iZ_ti ⟨by omega, by omega⟩]; omega) (by rw [iZ_ti ⟨by omega, by omega⟩]; omega) (by rw [iZ_ti ⟨by omega, by omega⟩, c_9]; rfl) (by decide) ?_
            refine lv_aload_n hx hb dX11_told_100 rfl (lv_at hl 0 rfl) ?_
            refine lv_aload_n hx hb dX11_told_101 rfl (lv_at hl 0 rfl) ?_
            refine va_get (D := D) (ci := 11) (v := .ref hw1) (C := RX11) (T := TX11) (N := 16) hx hb hts iX11 hown hK hP 0 rfl rfl 1 (bl rfl) (hts _ qf_X11_18) (fun _ h => h) rfl dX11_told_102 ?_
            refine va_get (D := D) (ci := 8) (v := .ref hc) (C := RX8) (T := TX8) (N := 3) hx hb hts iX8 hown hK hP 1 rfl rfl 1 (bl rfl) (hts _ qf_X11_205) (fun _ h => h) rfl dX11_told_105 ?_
            refine va_get (D := D) (ci := 0) (v := .int (iZ od)) (C := RX0) (T := TX0) (N := 6) hx hb hts iX0 hown hK hP 2 rfl rfl 5 (bl rfl) (hts _ qf_X11_214) (fun _ h => h) rfl dX11_told_108 ?_
            refine CWV (As := [.int (iZ od)]) (rest := []) (wc := _) (wr := [(hw1, .inr (8, [.ref hs, .ref hc, .ref hy])), (hc, .inr (0, [.ref cw, .ref cg, .ref cs, .ref ck, .int (iZ wk), .int (iZ od)])), (cw, .inl (k 1, 401, .inl wf)), (cg, .inl (k 1, 20, .inl gf)), (cs, .inl (k 1, 20, .inl sf)), (ck, .inl (k 1, 120, .inl kf0)), (hs, .inr (5, fs)), (hf, .inl (k 1, 36, .inl f)), (hg, .inl (k 1, 32, .inl g))]) hx hb hml hown hts hKK hP hD hS hA (k_answer l D k hx1 ta hw1 hw12 ka hr1 hq hv h hn1 hL li ev mk ou up lo od) ci_X11_answer qm_X11_174 ⟨Nat.le_of_ble_eq_true rfl, Nat.le_of_ble_eq_true rfl⟩ ⟨Nat.le_of_ble_eq_true rfl, Nat.le_of_ble_eq_true rfl⟩ [0] [1, 2, 3, 4, 5, 6, 7, 8, 9] rfl rfl rfl rfl rfl (dj rfl) 0 rfl rfl rfl hl.1 rfl (Nat.le_of_ble_eq_true rfl) dX11_told_111 (fun u_10 H locs hφ hP hD hS => ?_)
            refine W.eq (g2 := F0 m 114 ls [.int (iZ od)]) rfl ?_
            exact EWi hx hb hr hlocks hS ((od, 0), 0, (), ()) rfl (show (((0 ≤ x1 ∧ x1 ≤ 5)) ∧ ((x1 = 0 ∧ od = n) ∨ (x1 = 1 ∧ od = ni) ∨ (x1 = 2 ∧ od = lw) ∨ (x1 = 3 ∧ od = wk) ∨ (x1 = 4 ∧ od = od) ∨ (x1 = 5 ∧ od = gz wf wk))) ∨ (¬ ((0 ≤ x1 ∧ x1 ≤ 5)) ∧ (od : Int) = -1) from (Or.inl ⟨by omega, (by omega)⟩)) (hP.sub [9, 0, 1, 2, 3, 4, 5, 6, 7, 8] rfl) (hD.sub [9, 0, 1, 2, 3, 4, 5, 6, 7, 8] rfl rfl) dX11_told_114
          ·
            rcases Classical.em (x1 = 5) with c_11 | c_11
            ·
              refine lv_tableIn (tgt := 115) (off := 114) hx hb dX11_told_1 (by rw [iZ_ti ⟨by omega, by omega⟩]; omega) (by rw [iZ_ti ⟨by omega, by omega⟩]; omega) (by rw [iZ_ti ⟨by omega, by omega⟩, c_11]; rfl) (by decide) ?_
              refine lv_aload_n hx hb dX11_told_115 rfl (lv_at hl 0 rfl) ?_
              refine lv_aload_n hx hb dX11_told_116 rfl (lv_at hl 0 rfl) ?_
              refine va_get (D := D) (ci := 11) (v := .ref hw1) (C := RX11) (T := TX11) (N := 16) hx hb hts iX11 hown hK hP 0 rfl rfl 1 (bl rfl) (hts _ qf_X11_18) (fun _ h => h) rfl dX11_told_117 ?_
              refine va_get (D := D) (ci := 8) (v := .ref hc) (C := RX8) (T := TX8) (N := 3) hx hb hts iX8 hown hK hP 1 rfl rfl 1 (bl rfl) (hts _ qf_X11_205) (fun _ h => h) rfl dX11_told_120 ?_
              refine CRV (As := []) (rest := [.ref hx1]) hx hb hml hown hts hKK (hP.sub (ws' := [(hc, .inr (0, [.ref cw, .ref cg, .ref cs, .ref ck, .int (iZ wk), .int (iZ od)])), (cw, .inl (k 1, 401, .inl wf))]) [2, 3] rfl) (k_wornNow l D k hc cw [.ref cw, .ref cg, .ref cs, .ref ck, .int (iZ wk), .int (iZ od)] rfl wf wk rfl ⟨by omega, by omega⟩) ci_X0_wornNow qm_X11_217 ⟨Nat.le_of_ble_eq_true rfl, Nat.le_of_ble_eq_true rfl⟩ ⟨Nat.le_of_ble_eq_true rfl, Nat.le_of_ble_eq_true rfl⟩ 0 rfl rfl rfl hl.1 rfl (Nat.le_of_ble_eq_true rfl) dX11_told_123 ?_
              have hg_h_12 := gz_rg wf wk
              refine CWV (As := [.int (iZ (gz wf wk))]) (rest := []) (wc := _) (wr := [(hw1, .inr (8, [.ref hs, .ref hc, .ref hy])), (hc, .inr (0, [.ref cw, .ref cg, .ref cs, .ref ck, .int (iZ wk), .int (iZ od)])), (cw, .inl (k 1, 401, .inl wf)), (cg, .inl (k 1, 20, .inl gf)), (cs, .inl (k 1, 20, .inl sf)), (ck, .inl (k 1, 120, .inl kf0)), (hs, .inr (5, fs)), (hf, .inl (k 1, 36, .inl f)), (hg, .inl (k 1, 32, .inl g))]) hx hb hml hown hts hKK hP hD hS hA (k_answer l D k hx1 ta hw1 hw12 ka hr1 hq hv h hn1 hL li ev mk ou up lo (gz wf wk)) ci_X11_answer qm_X11_174 ⟨Nat.le_of_ble_eq_true rfl, Nat.le_of_ble_eq_true rfl⟩ ⟨Nat.le_of_ble_eq_true rfl, Nat.le_of_ble_eq_true rfl⟩ [0] [1, 2, 3, 4, 5, 6, 7, 8, 9] rfl rfl rfl rfl rfl (dj rfl) 0 rfl rfl rfl hl.1 rfl (Nat.le_of_ble_eq_true rfl) dX11_told_126 (fun u_13 H locs hφ hP hD hS => ?_)
              refine W.eq (g2 := F0 m 129 ls [.int (iZ (gz wf wk))]) rfl ?_
              exact EWi hx hb hr hlocks hS (((gz wf wk), 0), 0, (), ()) rfl (show (((0 ≤ x1 ∧ x1 ≤ 5)) ∧ ((x1 = 0 ∧ (gz wf wk) = n) ∨ (x1 = 1 ∧ (gz wf wk) = ni) ∨ (x1 = 2 ∧ (gz wf wk) = lw) ∨ (x1 = 3 ∧ (gz wf wk) = wk) ∨ (x1 = 4 ∧ (gz wf wk) = od) ∨ (x1 = 5 ∧ (gz wf wk) = gz wf wk))) ∨ (¬ ((0 ≤ x1 ∧ x1 ≤ 5)) ∧ ((gz wf wk) : Int) = -1) from (Or.inl ⟨by omega, (by omega)⟩)) (hP.sub [9, 0, 1, 2, 3, 4, 5, 6, 7, 8] rfl) (hD.sub [9, 0, 1, 2, 3, 4, 5, 6, 7, 8] rfl rfl) dX11_told_129
            ·
              refine lv_tableOut (tgt := 130) hx hb dX11_told_1 (by rw [iZ_ti ⟨by omega, by omega⟩]; omega) (by decide) ?_
              refine lv_aload_n hx hb dX11_told_130 rfl (lv_at hl 0 rfl) ?_
              refine lv_iconst (v := iZ 1) hx hb dX11_told_131 rfl ?_
              refine CWV (As := [.int (iZ 1)]) (rest := []) (wc := _) (wr := [(hw1, .inr (8, [.ref hs, .ref hc, .ref hy])), (hc, .inr (0, [.ref cw, .ref cg, .ref cs, .ref ck, .int (iZ wk), .int (iZ od)])), (cw, .inl (k 1, 401, .inl wf)), (cg, .inl (k 1, 20, .inl gf)), (cs, .inl (k 1, 20, .inl sf)), (ck, .inl (k 1, 120, .inl kf0)), (hs, .inr (5, fs)), (hf, .inl (k 1, 36, .inl f)), (hg, .inl (k 1, 32, .inl g))]) hx hb hml hown hts hKK hP hD hS hA (k_refuse l D k hx1 ta hw1 hw12 ka hr1 hq hv h hn1 hL li ev mk ou up lo 1) ci_X11_refuse qm_X11_126 ⟨Nat.le_of_ble_eq_true rfl, Nat.le_of_ble_eq_true rfl⟩ ⟨Nat.le_of_ble_eq_true rfl, Nat.le_of_ble_eq_true rfl⟩ [0] [1, 2, 3, 4, 5, 6, 7, 8, 9] rfl rfl rfl rfl rfl (dj rfl) 0 rfl rfl rfl hl.1 rfl (Nat.le_of_ble_eq_true rfl) dX11_told_132 (fun u_14 H locs hφ hP hD hS => ?_)
              refine W.eq (g2 := F0 m 135 ls [.int (iZ (-1))]) rfl ?_
              exact EWi hx hb hr hlocks hS (((-1), 1), 0, (), ()) rfl (show (((0 ≤ x1 ∧ x1 ≤ 5)) ∧ ((x1 = 0 ∧ (-1) = n) ∨ (x1 = 1 ∧ (-1) = ni) ∨ (x1 = 2 ∧ (-1) = lw) ∨ (x1 = 3 ∧ (-1) = wk) ∨ (x1 = 4 ∧ (-1) = od) ∨ (x1 = 5 ∧ (-1) = gz wf wk))) ∨ (¬ ((0 ≤ x1 ∧ x1 ≤ 5)) ∧ ((-1) : Int) = -1) from (Or.inr ⟨by omega, rfl⟩)) (hP.sub [9, 0, 1, 2, 3, 4, 5, 6, 7, 8] rfl) (hD.sub [9, 0, 1, 2, 3, 4, 5, 6, 7, 8] rfl rfl) dX11_told_135
set_option maxHeartbeats 4000000 in
set_option maxRecDepth 100000 in
theorem r_told (l : Launch) (D : va_G) (k : Nat → ClassId) (hm : Nat) (Ma : Nat) (Mn : Nat) (Ms : Nat) (My : Nat) (Mt : Nat) (Mp : Nat) (Mx : Nat) (Mo : Nat) (Mk : Nat) (Ml : Nat) (Mb : Nat) (Mh : Nat) (Mc : Nat) (Mz : Nat) (Mr : Nat) (Mq : Nat) (Mst : Int) (Mtd : Int) (Msz : Int) (Mtk : Int) (Mfr : Int) (Men : Int) (Mva : Int) (Mfk : Int) (Mfp : Int) (Mfs : Int) (Mse : Int) (Mlt : Int) (Mdp : Int) (Mct : Int) (Mdr : Int) (Mrs : Int) (Mit : Int) (Mmk : Int) (Mtp : Int64) (Mbt : Int64) (Af : Nat → Int32) (x1 : Int) (hM : M0 Af) (h9x1 : -2147483648 ≤ x1 ∧ x1 < 2147483648) : WD (σ := ((Int × Int) × (Int64) × (Unit) × (Unit))) l yX12_told cX12_told 2 (some .int) 1 0 0 D k [.ref hm, .int (iZ x1)] [(hm, .inr (12, [.ref Ma, .ref Mn, .int (iZ Mst), .long Mtp, .long Mbt, .ref Ms, .ref My, .ref Mt, .ref Mp, .ref Mx, .int (iZ Mtd), .int (iZ Msz), .int (iZ Mtk), .int (iZ Mfr), .int (iZ Men), .int (iZ Mva), .int (iZ Mfk), .int (iZ Mfp), .int (iZ Mfs), .int (iZ Mse), .int (iZ Mlt), .ref Mo, .int (iZ Mdp), .int (iZ Mct), .ref Mk, .ref Ml, .ref Mb, .ref Mh, .ref Mc, .int (iZ Mdr), .int (iZ Mrs), .ref Mz, .ref Mr, .ref Mq, .int (iZ Mit), .int (iZ Mmk)])), (Ma, .inl (k 1, 5340, .inl Af))] (fun u => some (.int (iZ u.1.1))) (fun u => (((0 ≤ x1 ∧ x1 ≤ 5)) ∧ ((x1 = 5 ∧ u.1.1 = gz Af (118 + gz Af 3)) ∨ (¬ x1 = 5 ∧ u.1.1 = gz Af x1))) ∨ (¬ ((0 ≤ x1 ∧ x1 ≤ 5)) ∧ (u.1.1 : Int) = -1)) (fun u => [(hm, .inr (12, [.ref Ma, .ref Mn, .int (iZ u.1.2), .long Mtp, .long Mbt, .ref Ms, .ref My, .ref Mt, .ref Mp, .ref Mx, .int (iZ Mtd), .int (iZ Msz), .int (iZ Mtk), .int (iZ Mfr), .int (iZ Men), .int (iZ Mva), .int (iZ Mfk), .int (iZ Mfp), .int (iZ Mfs), .int (iZ Mse), .int (iZ Mlt), .ref Mo, .int (iZ Mdp), .int (iZ Mct), .ref Mk, .ref Ml, .ref Mb, .ref Mh, .ref Mc, .int (iZ Mdr), .int (iZ Mrs), .ref Mz, .ref Mr, .ref Mq, .int (iZ Mit), .int (iZ Mmk)])), (Ma, .inl (k 1, 5340, .inl Af))]) := by
  refine MW (by decide) (Nat.le_of_ble_eq_true rfl) (fun p e s m below meth c ls A hx hb hml hr hlocks hin hts hown hKK hP hD hS hA hl => ?_)
  have hK := hKK.1
  have hl : lv_has ls 2 [(0, .ref hm), (1, .int (iZ x1))] := hl
  obtain ⟨m0, m1, m3, m4, m5, mF, mO, mS⟩ := id hM
  refine lv_iload_n hx hb dX12_told_0 rfl (lv_at hl 1 rfl) ?_
  refine lv_if_lt (tgt := 9) hx hb dX12_told_1 rfl (fun c_1 => ?_) (fun c_1 => ?_)
  ·
    have c_1 := (zlt (x := iZ x1) (y := iZ 0) rfl rfl ⟨by omega, by omega⟩ wn_0).mp c_1
    refine lv_aload_n hx hb dX12_told_9 rfl (lv_at hl 0 rfl) ?_
    refine lv_iconst (v := iZ 1) hx hb dX12_told_10 rfl ?_
    refine CWV (As := [.int (iZ 1)]) (rest := []) (wc := _) (wr := [(Ma, .inl (k 1, 5340, .inl Af))]) hx hb hml hown hts hKK hP hD hS hA (m_refuse l D k hm Ma Mn Ms My Mt Mp Mx Mo Mk Ml Mb Mh Mc Mz Mr Mq Mst Mtd Msz Mtk Mfr Men Mva Mfk Mfp Mfs Mse Mlt Mdp Mct Mdr Mrs Mit Mmk Mtp Mbt 1) ci_X12_refuse qm_X12_81 ⟨Nat.le_of_ble_eq_true rfl, Nat.le_of_ble_eq_true rfl⟩ ⟨Nat.le_of_ble_eq_true rfl, Nat.le_of_ble_eq_true rfl⟩ [0] [1] rfl rfl rfl rfl rfl (dj rfl) 0 rfl rfl rfl hl.1 rfl (Nat.le_of_ble_eq_true rfl) dX12_told_11 (fun u_2 H locs hφ hP hD hS => ?_)
    refine W.eq (g2 := F0 m 14 ls [.int (iZ (-1))]) rfl ?_
    exact EWi hx hb hr hlocks hS (((-1), 1), 0, (), ()) rfl (show (((0 ≤ x1 ∧ x1 ≤ 5)) ∧ ((x1 = 5 ∧ (-1) = gz Af (118 + gz Af 3)) ∨ (¬ x1 = 5 ∧ (-1) = gz Af x1))) ∨ (¬ ((0 ≤ x1 ∧ x1 ≤ 5)) ∧ ((-1) : Int) = -1) from (Or.inr ⟨by omega, rfl⟩)) (hP.sub [1, 0] rfl) (hD.sub [1, 0] rfl rfl) dX12_told_14
  ·
    have c_1 := mt (zlt (x := iZ x1) (y := iZ 0) rfl rfl ⟨by omega, by omega⟩ wn_0).mpr c_1
    refine lv_iload_n hx hb dX12_told_4 rfl (lv_at hl 1 rfl) ?_
    refine lv_iconst (v := iZ 5) hx hb dX12_told_5 rfl ?_
    refine lv_icmp_le (tgt := 15) hx hb dX12_told_6 rfl (fun c_3 => ?_) (fun c_3 => ?_)
    ·
      have c_3 := (zle (x := iZ x1) (y := iZ 5) rfl rfl ⟨by omega, by omega⟩ wn_5).mp c_3
      refine lv_aload_n hx hb dX12_told_15 rfl (lv_at hl 0 rfl) ?_
      refine lv_iload_n hx hb dX12_told_16 rfl (lv_at hl 1 rfl) ?_
      refine lv_iconst (v := iZ 5) hx hb dX12_told_17 rfl ?_
      refine lv_icmp_ne (tgt := 38) hx hb dX12_told_18 rfl (fun c_4 => ?_) (fun c_4 => ?_)
      ·
        have c_4 := mt (zeq (x := iZ x1) (y := iZ 5) rfl rfl ⟨by omega, by omega⟩ wn_5).mpr c_4
        refine lv_aload_n hx hb dX12_told_38 rfl (lv_at hl 0 rfl) ?_
        refine va_get (D := D) (ci := 12) (v := .ref Ma) (C := RX12) (T := TX12) (N := 36) hx hb hts iX12 hown hK hP 0 rfl rfl 0 (bl rfl) (hts _ qf_X12_7) (fun _ h => h) rfl dX12_told_39 ?_
        refine lv_iload_n hx hb dX12_told_42 rfl (lv_at hl 1 rfl) ?_
        refine va_iald hx hb hK hP 1 1 rfl rfl (zin (e := x1) (n := 5340) ⟨by omega, by omega⟩ (bl rfl)) dX12_told_43 ?_
        refine lv_topi (fun x_5 ex_5 => ?_)
        obtain rfl : x_5 = iZ (gz Af x1) := ex_5.trans (gz_eq ⟨by omega, by omega⟩)
        have h_6 := gz_rg Af x1
        refine CWV (As := [.int (iZ (gz Af x1))]) (rest := []) (wc := _) (wr := [(Ma, .inl (k 1, 5340, .inl Af))]) hx hb hml hown hts hKK hP hD hS hA (m_gives l D k hm Ma Mn Ms My Mt Mp Mx Mo Mk Ml Mb Mh Mc Mz Mr Mq Mst Mtd Msz Mtk Mfr Men Mva Mfk Mfp Mfs Mse Mlt Mdp Mct Mdr Mrs Mit Mmk Mtp Mbt (gz Af x1)) ci_X12_gives qm_X12_85 ⟨Nat.le_of_ble_eq_true rfl, Nat.le_of_ble_eq_true rfl⟩ ⟨Nat.le_of_ble_eq_true rfl, Nat.le_of_ble_eq_true rfl⟩ [0] [1] rfl rfl rfl rfl rfl (dj rfl) 0 rfl rfl rfl hl.1 rfl (Nat.le_of_ble_eq_true rfl) dX12_told_44 (fun u_7 H locs hφ hP hD hS => ?_)
        refine W.eq (g2 := F0 m 47 ls [.int (iZ (gz Af x1))]) rfl ?_
        exact EWi hx hb hr hlocks hS (((gz Af x1), 0), 0, (), ()) rfl (show (((0 ≤ x1 ∧ x1 ≤ 5)) ∧ ((x1 = 5 ∧ (gz Af x1) = gz Af (118 + gz Af 3)) ∨ (¬ x1 = 5 ∧ (gz Af x1) = gz Af x1))) ∨ (¬ ((0 ≤ x1 ∧ x1 ≤ 5)) ∧ ((gz Af x1) : Int) = -1) from (Or.inl ⟨by omega, (by omega)⟩)) (hP.sub [1, 0] rfl) (hD.sub [1, 0] rfl rfl) dX12_told_47
      ·
        have c_4 := (zeq (x := iZ x1) (y := iZ 5) rfl rfl ⟨by omega, by omega⟩ wn_5).mp c_4
        refine lv_aload_n hx hb dX12_told_21 rfl (lv_at hl 0 rfl) ?_
        refine va_get (D := D) (ci := 12) (v := .ref Ma) (C := RX12) (T := TX12) (N := 36) hx hb hts iX12 hown hK hP 0 rfl rfl 0 (bl rfl) (hts _ qf_X12_7) (fun _ h => h) rfl dX12_told_22 ?_
        refine lv_bipush (v := iZ 118) hx hb dX12_told_25 bip_118 ?_
        refine lv_aload_n hx hb dX12_told_27 rfl (lv_at hl 0 rfl) ?_
        refine va_get (D := D) (ci := 12) (v := .ref Ma) (C := RX12) (T := TX12) (N := 36) hx hb hts iX12 hown hK hP 0 rfl rfl 0 (bl rfl) (hts _ qf_X12_7) (fun _ h => h) rfl dX12_told_28 ?_
        refine lv_iconst (v := iZ 3) hx hb dX12_told_31 rfl ?_
        refine va_iald hx hb hK hP 1 1 rfl rfl (zin (e := 3) (n := 5340) ⟨by omega, by omega⟩ (bl rfl)) dX12_told_32 ?_
        refine lv_topi (fun x_8 ex_8 => ?_)
        obtain rfl : x_8 = iZ (gz Af 3) := ex_8.trans (gz_eq ⟨by omega, by omega⟩)
        have h_9 := gz_rg Af 3
        refine lv_iadd hx hb dX12_told_33 ?_
        refine lv_topi (fun x_10 ex_10 => ?_)
        obtain rfl : x_10 = iZ (118 + (gz Af 3)) := ex_10.trans (iZ_add 118 (gz Af 3))
        refine va_iald hx hb hK hP 1 1 rfl rfl (zin (e := (118 + (gz Af 3))) (n := 5340) ⟨by omega, by omega⟩ (bl rfl)) dX12_told_34 ?_
        refine lv_topi (fun x_11 ex_11 => ?_)
        obtain rfl : x_11 = iZ (gz Af (118 + (gz Af 3))) := ex_11.trans (gz_eq ⟨by omega, by omega⟩)
        have h_12 := gz_rg Af (118 + (gz Af 3))
        refine lv_goto (tgt := 44) hx hb dX12_told_35 rfl ?_
        refine CWV (As := [.int (iZ (gz Af (118 + (gz Af 3))))]) (rest := []) (wc := _) (wr := [(Ma, .inl (k 1, 5340, .inl Af))]) hx hb hml hown hts hKK hP hD hS hA (m_gives l D k hm Ma Mn Ms My Mt Mp Mx Mo Mk Ml Mb Mh Mc Mz Mr Mq Mst Mtd Msz Mtk Mfr Men Mva Mfk Mfp Mfs Mse Mlt Mdp Mct Mdr Mrs Mit Mmk Mtp Mbt (gz Af (118 + (gz Af 3)))) ci_X12_gives qm_X12_85 ⟨Nat.le_of_ble_eq_true rfl, Nat.le_of_ble_eq_true rfl⟩ ⟨Nat.le_of_ble_eq_true rfl, Nat.le_of_ble_eq_true rfl⟩ [0] [1] rfl rfl rfl rfl rfl (dj rfl) 0 rfl rfl rfl hl.1 rfl (Nat.le_of_ble_eq_true rfl) dX12_told_44 (fun u_13 H locs hφ hP hD hS => ?_)
        refine W.eq (g2 := F0 m 47 ls [.int (iZ (gz Af (118 + (gz Af 3))))]) rfl ?_
        exact EWi hx hb hr hlocks hS (((gz Af (118 + (gz Af 3))), 0), 0, (), ()) rfl (show (((0 ≤ x1 ∧ x1 ≤ 5)) ∧ ((x1 = 5 ∧ (gz Af (118 + (gz Af 3))) = gz Af (118 + gz Af 3)) ∨ (¬ x1 = 5 ∧ (gz Af (118 + (gz Af 3))) = gz Af x1))) ∨ (¬ ((0 ≤ x1 ∧ x1 ≤ 5)) ∧ ((gz Af (118 + (gz Af 3))) : Int) = -1) from (Or.inl ⟨by omega, (by omega)⟩)) (hP.sub [1, 0] rfl) (hD.sub [1, 0] rfl rfl) dX12_told_47
    ·
      have c_3 := mt (zle (x := iZ x1) (y := iZ 5) rfl rfl ⟨by omega, by omega⟩ wn_5).mpr c_3
      refine lv_aload_n hx hb dX12_told_9 rfl (lv_at hl 0 rfl) ?_
      refine lv_iconst (v := iZ 1) hx hb dX12_told_10 rfl ?_
      refine CWV (As := [.int (iZ 1)]) (rest := []) (wc := _) (wr := [(Ma, .inl (k 1, 5340, .inl Af))]) hx hb hml hown hts hKK hP hD hS hA (m_refuse l D k hm Ma Mn Ms My Mt Mp Mx Mo Mk Ml Mb Mh Mc Mz Mr Mq Mst Mtd Msz Mtk Mfr Men Mva Mfk Mfp Mfs Mse Mlt Mdp Mct Mdr Mrs Mit Mmk Mtp Mbt 1) ci_X12_refuse qm_X12_81 ⟨Nat.le_of_ble_eq_true rfl, Nat.le_of_ble_eq_true rfl⟩ ⟨Nat.le_of_ble_eq_true rfl, Nat.le_of_ble_eq_true rfl⟩ [0] [1] rfl rfl rfl rfl rfl (dj rfl) 0 rfl rfl rfl hl.1 rfl (Nat.le_of_ble_eq_true rfl) dX12_told_11 (fun u_14 H locs hφ hP hD hS => ?_)
      refine W.eq (g2 := F0 m 14 ls [.int (iZ (-1))]) rfl ?_
      exact EWi hx hb hr hlocks hS (((-1), 1), 0, (), ()) rfl (show (((0 ≤ x1 ∧ x1 ≤ 5)) ∧ ((x1 = 5 ∧ (-1) = gz Af (118 + gz Af 3)) ∨ (¬ x1 = 5 ∧ (-1) = gz Af x1))) ∨ (¬ ((0 ≤ x1 ∧ x1 ≤ 5)) ∧ ((-1) : Int) = -1) from (Or.inr ⟨by omega, rfl⟩)) (hP.sub [1, 0] rfl) (hD.sub [1, 0] rfl rfl) dX12_told_14
end

section
/-- what was there keeps its size -/
def SS (st t : State) : Prop := ∀ (q : Nat) (c : Cell), st.heap[q]? = some c → ∃ c' : Cell, t.heap[q]? = some c' ∧ c'.slots.size = c.slots.size
theorem Met.ss {l : Launch} {y : MethodName} {ws : List Cond} {rm : Room} {Pc : Array Value → State → Prop} {Qc : Array Value → State → Outcome → State → Prop} {mc ms : Nat} {free : Addr → Prop} (h : Met l y ws rm Pc Qc mc ms free) : Met l y ws rm Pc (fun a st o t => Qc a st o t ∧ SS st t) mc ms free := by
  intro p e ha hc hk s m args below hf happ hp hk'
  obtain ⟨n, o, h1, h2, h3, h4, L, h5, h6⟩ := h p e ha hc hk s m args below hf happ hp hk'
  refine ⟨n, o, h1, h2, h3, ⟨h4, fun q c hq => ?_⟩, L, h5, h6⟩
  obtain ⟨-, -, -, -, -, -, -, h7⟩ := h5
  obtain ⟨c', g1, -, g2, -⟩ := h7 q c hq
  exact ⟨c', g1, g2⟩
section LR
variable {p : Program} {l : Launch} {e : Env} {R : Room} {s : State} {m : MethodId} {args : Array Value} {below : List Frame} {meth : Method} {c : Code} {H : Heap} {locs : List Loc} {pc : Nat} {D : va_G} {A : Nat → Prop} {cc : ByteArray} {ls : Array Slot} {σ : Type} {ry : σ → Ry} {val : σ → Option Value} {φ : σ → Prop} {post : σ → va_W} {k : Nat → ClassId} {r : Ry} {Q : State → Prop}
variable {y : MethodName} {bytes : ByteArray} {maxL nL n index j b ci N c0 s0 : Nat} {ret : Option FieldType} {own : String} {As rest st : List Value} {wc wr ws : va_W} {T : u_T} {fs : List Value}
theorem stand_tight2 {T T' : State} {locs' : List Loc} {c1 s1 : Nat} (X : Stand p l e R s m args below meth c T locs c0 s0) (X' : Stand p l e R s m args below meth c T' locs' c1 s1) (hs : T'.heap.size = T.heap.size) (hq : ∀ (q : Nat) (d : Cell), T.heap[q]? = some d → ∃ d' : Cell, T'.heap[q]? = some d' ∧ d'.slots.size = d.slots.size) : Stand p l e R s m args below meth c T' locs' c0 s0 := by
  obtain ⟨-, -, a3, -, a5, -⟩ := X.same
  obtain ⟨h1, h2, h3, h4, h5, h6⟩ := X'.same
  have a3' : T.heap.size ≤ s.heap.size + c0 := a3
  have e1 : (T'.heap.toList.drop s.heap.size).map (fun d => d.slots.size) = (T.heap.toList.drop s.heap.size).map (fun d => d.slots.size) := by
    apply List.ext_getElem?
    intro i
    rw [List.getElem?_map, List.getElem?_map, List.getElem?_drop, List.getElem?_drop, Array.getElem?_toList, Array.getElem?_toList]
    cases h : T.heap[s.heap.size + i]? with
    | none =>
      have hn : T.heap.size ≤ s.heap.size + i := Array.getElem?_eq_none_iff.mp h
      rw [Array.getElem?_eq_none (by omega)]
    | some d =>
      obtain ⟨d', g1, g2⟩ := hq _ d h
      rw [g1]
      show some d'.slots.size = some d.slots.size
      rw [g2]
  have e2 : (((T'.setVm s.vm).heap.toList.drop s.heap.size).map (fun d => d.slots.size)) = (((T.setVm s.vm).heap.toList.drop s.heap.size).map (fun d => d.slots.size)) := e1
  exact { X' with same := ⟨h1, h2, by show T'.heap.size ≤ s.heap.size + c0; omega, h4, by rw [e2]; exact a5, h6⟩ }
theorem callXL {A0 A1 : Nat → Prop} {a : Array Value} {free : Addr → Prop} {bb : Bool} (hr : va_Run p l e R s m args below meth c H locs (c0 + cz true bb) (s0 + sz true bb) (rcN bb) (rsN bb) (F0 m pc ls st) rest (fun st' o' t' => QX bb ry val φ post D A1 a st' o' t' ∧ SS st' t') free) (hsz : va_S A0 s.heap H locs) (hA : ∀ q, q < H.size → A1 q → A0 q) (hf : ∀ q, free q → A0 q)
    (kk : ∀ (u : σ) (H1 : Heap) (locs1 : List Loc), φ u → va_P D vwCl (post u ++ (ry u).tl) H1 → va_D A1 (post u ++ (ry u).tl) → (∀ q : Nat, q < H.size → ¬ A1 q → H1[q]? = H[q]?) → va_S A0 s.heap H1 locs1 → W p l e R s m args below meth c H1 locs1 (c0 + cz true (ry u).b) (s0 + sz true (ry u).b) Q (F0 m (pc + 3) ls ((val u).toList ++ rest))) : W p l e R s m args below meth c H locs (c0 + cz true bb) (s0 + sz true bb) Q (F0 m pc ls st) := by
  intro T hT X
  obtain ⟨v, st₀, t, T', L, h0, X', hL, e1, e2, ⟨⟨⟨u, hv, hp, hb, hd, hc⟩, hz, hk⟩, hss⟩, st⟩ := hr T hT X
  cases hv
  rw [h0] at hz hk hc
  rw [← e1] at hb
  have X2 : Stand p l e R s m args below meth c T' (locs ++ L) (c0 + cz true (ry u).b) (s0 + sz true (ry u).b) := by
    cases hub : (ry u).b with
    | true =>
      obtain ⟨g1, g2⟩ := hc hub
      subst g1
      refine stand_tight2 X X' (by rw [e1, g2, hT]) (fun q d hq => ?_)
      rw [hT, ← h0] at hq
      obtain ⟨d', q1, q2⟩ := hss q d hq
      exact ⟨d', by rw [e1]; exact q1, q2⟩
    | false =>
      refine stand_widen X' ?_ ?_
      · cases bb with
        | true => show c0 + 0 + 2 ≤ c0 + 2; omega
        | false => show c0 + 2 + 0 ≤ c0 + 2; omega
      · cases bb with
        | true => show s0 + 0 + 28872 ≤ s0 + 28872; omega
        | false => show s0 + 28872 + 0 ≤ s0 + 28872; omega
  obtain ⟨t2, a1, b1⟩ := kk u T'.heap (locs ++ L) hp hb hd (fun q h1 h2 => by rw [e1]; exact hk q h1 h2)
    ⟨Nat.le_trans hsz.1 (by rw [e1]; exact hz), fun q h1 h2 => by rw [e1, hk q (Nat.lt_of_lt_of_le h1 hsz.1) (fun z => h2 (hA q (Nat.lt_of_lt_of_le h1 hsz.1) z))]; exact hsz.2.1 q h1 h2, fun q hq => by
      rcases List.mem_append.mp hq with h | h
      · exact hsz.2.2 q h
      · exact hf _ (hL q h)⟩ T' rfl X2
  exact ⟨t2, st t2 a1, b1⟩
theorem CKSV {cells slots : Nat} {tl : va_W} {sa sv : Nat} (hx : p.tables.exec = Jvm.exec) (hb : c.code = cc) (hml : c.maxLocals = nL) (hown : s.vm.findClass own = some m.cls) (hts : ∀ w ∈ gw, w.before args s = true) (hK : KK D k s) (hP : va_P D vwCl (ws ++ tl) H) (hD : va_D A (ws ++ tl)) (hS : va_S A s.heap H locs) (hA : ∀ q : Nat, s.heap.size ≤ q → A q) (hSY : SY sa sv keyF A s s.heap) (hRR : vk_R RX12 175 keyT sa s) (hM : SD sa sv l y bytes maxL ret j D k (.ref b :: As) wc val φ post) (cI : CIv y bytes maxL ret n) (hlink : Cond.methodLink own index y ∈ gw) (hR : j + 1 ≤ R.frames ∧ 8 + (maxL + 11) + 40 * j ≤ R.locals) (hce : cells ≤ R.cells ∧ slots ≤ R.slots)
    (isC isR : List Nat) (hC : isC.map (fun i => ws[i]?) = wc.map some) (hC2 : isC.filterMap (fun i => ws[i]?) = wc) (hRr : isR.map (fun i => ws[i]?) = wr.map some) (hnC : va_nd isC = true) (hnR : va_nd isR = true) (hdis : ∀ i ∈ isR, i ∉ isC)
    (q0 : Nat) (he : wc[q0]? = some (b, .inr (ci, fs))) (hc : vwCl[ci]? = some (y.cls, T, N)) (hn : As.length = n) (hsz : ls.size = nL) (hst : st = As.reverse ++ .ref b :: rest) (hW : (rest.map fun v => v.category).sum ≤ 8) (hdg : decode cc pc = .ok (.invokevirtual index, 3))
    (kk : ∀ (u : σ) (H1 : Heap) (locs1 : List Loc), φ u → va_P D vwCl ((wr ++ post u) ++ tl) H1 → va_D A ((wr ++ post u) ++ tl) → va_S A s.heap H1 locs1 → W p l e R s m args below meth c H1 locs1 cells slots Q (F0 m (pc + 3) ls ((val u).toList ++ rest))) : W p l e R s m args below meth c H locs cells slots Q (F0 m pc ls st) := by
  have hPc := hP.spl.1.sub isC hC2
  have hDc := hD.spl.1.sub isC hnC hC
  have hFc := va_free hD.spl.1 hS hA isC hC
  have hSc : SY sa sv keyF (va_A wc H.size) s H := (hSY.kept hS.2.1).narrow hFc
  refine callW (va_runV (As := As) (rest := rest) (b := b) ⟨hx, hb, hml, hown, hts⟩ (hM H.size) (cwVx hts cI hlink hR) ⟨PSm.blind, va_recv hK.1 hPc hc he, fun U hU hW => ⟨rfl, by rw [hU], by rw [hU]; exact hPc, hK.warm hW, hDc.weaken (fun _ _ _ _ => trivial), by rw [hU]; exact hSc.moved hW.alike, vk_R.warm hW hRR⟩⟩ rfl hn hsz hst (lv_room hW) hdg hce) hS (fun q _ h => hFc q h) hFc (fun u H1 locs1 hφ hP1 hD1 hk1 hS1 => ?_)
  obtain ⟨g1, g2⟩ := join_keep hP hD isC isR hC hRr hnR hdis hk1 hFc hP1 hD1
  exact kk u H1 locs1 hφ g1 g2 hS1
end LR
end

section
def pick (ws : va_W) (is : List Nat) : va_W := is.filterMap (fun i => ws[i]?)
theorem va_D.sp {A : Nat → Prop} {a b : va_W} (h : va_D A (a ++ b)) : va_D A a ∧ va_D A b ∧ ∀ p ∈ a, ∀ q ∈ b, p.1 ≠ q.1 := by
  obtain ⟨h1, h2, h3⟩ := h.spl
  refine ⟨h1, h2, fun p hp q hq => ?_⟩
  obtain ⟨i, hi⟩ := List.getElem?_of_mem hp
  obtain ⟨j, hj⟩ := List.getElem?_of_mem hq
  exact h3 i j p q hi hj
theorem va_D.ap {A : Nat → Prop} {a b : va_W} (h1 : va_D A a) (h2 : va_D A b) (h : ∀ p ∈ a, ∀ q ∈ b, p.1 ≠ q.1) : va_D A (a ++ b) := va_D.app h1 h2 (fun _ _ p q hp hq => h p (List.mem_of_getElem? hp) q (List.mem_of_getElem? hq))
/-- a world stands and its addresses are apart -/
def PD (D : va_G) (A : Nat → Prop) (ws : va_W) (H : Heap) : Prop := va_P D vwCl ws H ∧ va_D A ws
theorem fmap_some {α β : Type} {f : α → Option β} : ∀ {l : List α} {y : List β}, l.map f = y.map some → l.filterMap f = y
  | [], [], _ => rfl
  | [], _ :: _, h => by cases h
  | a :: l, [], h => by cases h
  | a :: l, b :: y, h => by
    have h1 : f a = some b := (List.cons.inj h).1
    have h2 := fmap_some (List.cons.inj h).2
    rw [List.filterMap_cons, h1, h2]
section PDS
variable {D : va_G} {A : Nat → Prop} {H : Heap} {x y z u v t m m' : va_W}
theorem mem_sw {q : Nat × va_E} (h : q ∈ y ++ (x ++ z)) : q ∈ x ++ (y ++ z) := by
  rcases List.mem_append.mp h with g | g
  · exact List.mem_append_right _ (List.mem_append_left _ g)
  · rcases List.mem_append.mp g with g | g
    · exact List.mem_append_left _ g
    · exact List.mem_append_right _ (List.mem_append_right _ g)
theorem PD.swap (h : PD D A (x ++ (y ++ z)) H) : PD D A (y ++ (x ++ z)) H := by
  obtain ⟨hP, hD⟩ := h
  obtain ⟨dx, d2, c1⟩ := hD.sp
  obtain ⟨dy, dz, c2⟩ := d2.sp
  refine ⟨hP.spl.2.spl.1.app (hP.spl.1.app hP.spl.2.spl.2), va_D.ap dy (va_D.ap dx dz (fun p hp q hq => c1 p hp q (List.mem_append_right _ hq))) (fun p hp q hq => ?_)⟩
  rcases List.mem_append.mp hq with g | g
  · exact fun e => c1 q g p (List.mem_append_left _ hp) e.symm
  · exact c2 p hp q g
theorem PD.cong (h : PD D A (x ++ m) H) (f : PD D A m H → PD D A m' H) (hm : ∀ q ∈ m', q ∈ m) : PD D A (x ++ m') H := by
  obtain ⟨hP, hD⟩ := h
  obtain ⟨dx, dm, c1⟩ := hD.sp
  obtain ⟨g1, g2⟩ := f ⟨hP.spl.2, dm⟩
  exact ⟨hP.spl.1.app g1, va_D.ap dx g2 (fun p hp q hq => c1 p hp q (hm q hq))⟩
theorem PD.mem_eq (h : ∀ q, q ∈ m' → q ∈ m) (q : Nat × va_E) (hq : q ∈ x ++ m') : q ∈ x ++ m := by
  rcases List.mem_append.mp hq with g | g
  · exact List.mem_append_left _ g
  · exact List.mem_append_right _ (h q g)
theorem PD.fr3 (h : PD D A (x ++ (y ++ (z ++ t))) H) : PD D A (z ++ (x ++ (y ++ t))) H := PD.swap (PD.cong h PD.swap (fun _ hq => mem_sw hq))
theorem mem_f3 {q : Nat × va_E} (h : q ∈ z ++ (x ++ (y ++ t))) : q ∈ x ++ (y ++ (z ++ t)) := PD.mem_eq (fun _ g => mem_sw g) q (mem_sw h)
theorem PD.fr4 (h : PD D A (x ++ (y ++ (z ++ (u ++ t)))) H) : PD D A (u ++ (x ++ (y ++ (z ++ t)))) H := PD.swap (PD.cong h PD.fr3 (fun _ hq => mem_f3 hq))
theorem mem_f4 {q : Nat × va_E} (h : q ∈ u ++ (x ++ (y ++ (z ++ t)))) : q ∈ x ++ (y ++ (z ++ (u ++ t))) := PD.mem_eq (fun _ g => mem_f3 g) q (mem_sw h)
theorem PD.fr5 (h : PD D A (x ++ (y ++ (z ++ (u ++ (v ++ t))))) H) : PD D A (v ++ (x ++ (y ++ (z ++ (u ++ t))))) H := PD.swap (PD.cong h PD.fr4 (fun _ hq => mem_f4 hq))
/-- the first part by its places -/
theorem PD.by {is : List Nat} (h : PD D A (x ++ t) H) (hn : va_nd is = true) (hs : is.map (fun i => x[i]?) = y.map some) (hs2 : is.filterMap (fun i => x[i]?) = y) : PD D A (y ++ t) H := ⟨h.1.subT is hs2, h.2.subT is hn hs⟩
theorem PD.by2 {is : List Nat} (h : PD D A (x ++ t) H) (hn : va_nd is = true) (hs : is.map (fun i => x[i]?) = y.map some) : PD D A (y ++ t) H := PD.by h hn hs (fmap_some hs)
/-- where the i-th cell behind a call comes from: what was there, or what the call left -/
def lkk (ws p : va_W) (isR : List Nat) (i : Nat) : Option (Nat × va_E) := match isR[i]? with
  | some j => ws[j]?
  | none => p[i - isR.length]?
theorem lkk_eq {ws p : va_W} {isR : List Nat} (hR : isR.map (fun i => ws[i]?) = (pick ws isR).map some) (i : Nat) : (pick ws isR ++ p)[i]? = lkk ws p isR i := by
  have hl : isR.length = (pick ws isR).length := by
    have := congrArg List.length hR
    rw [List.length_map, List.length_map] at this
    exact this
  unfold lkk
  cases h : isR[i]? with
  | none =>
    have h1 : isR.length ≤ i := List.getElem?_eq_none_iff.mp h
    rw [List.getElem?_append_right (by omega), hl]
  | some j =>
    have h1 : i < isR.length := (List.getElem?_eq_some_iff.mp h).1
    rw [List.getElem?_append_left (by omega)]
    have h2 : (isR.map (fun i => ws[i]?))[i]? = ((pick ws isR).map some)[i]? := by rw [hR]
    rw [List.getElem?_map, List.getElem?_map, h] at h2
    cases g : (pick ws isR)[i]? with
    | none => rw [g] at h2; cases h2
    | some q =>
      rw [g] at h2
      exact (Option.some.inj h2).symm
theorem PD.by3 {ws p : va_W} {isR is : List Nat} (h : PD D A ((pick ws isR ++ p) ++ t) H) (hn : va_nd is = true) (hR : isR.map (fun i => ws[i]?) = (pick ws isR).map some) (hs : is.map (fun i => lkk ws p isR i) = y.map some) : PD D A (y ++ t) H := by
  refine PD.by2 h hn ?_
  rw [← hs]
  exact List.map_congr_left (fun i _ => lkk_eq hR i)
theorem PD.as2 (h : PD D A ((x ++ y) ++ t) H) : PD D A (x ++ (y ++ t)) H := by rw [List.append_assoc] at h; exact h
theorem PD.sa2 (h : PD D A (x ++ (y ++ t)) H) : PD D A ((x ++ y) ++ t) H := by rw [List.append_assoc]; exact h
theorem PD.mid3 (h : PD D A (x ++ (y ++ (z ++ (u ++ t)))) H) : PD D A (x ++ ((y ++ (z ++ u)) ++ t)) H := by rw [List.append_assoc, List.append_assoc]; exact h
theorem PD.mid4 (h : PD D A (x ++ (y ++ (z ++ (u ++ (v ++ t))))) H) : PD D A (x ++ ((y ++ (z ++ (u ++ v))) ++ t)) H := by rw [List.append_assoc, List.append_assoc, List.append_assoc]; exact h
theorem PD.dim3 (h : PD D A (x ++ ((y ++ (z ++ u)) ++ t)) H) : PD D A (x ++ (y ++ (z ++ (u ++ t)))) H := by rw [List.append_assoc, List.append_assoc] at h; exact h
theorem PD.dim4 (h : PD D A (x ++ ((y ++ (z ++ (u ++ v))) ++ t)) H) : PD D A (x ++ (y ++ (z ++ (u ++ (v ++ t))))) H := by rw [List.append_assoc, List.append_assoc, List.append_assoc] at h; exact h
end PDS
theorem join_mid {A0 : Nat → Prop} {D : va_G} {ws mid tl wc wr w0 tl' : va_W} {H H1 : Heap} (hP : va_P D vwCl (mid ++ (ws ++ tl)) H) (hD : va_D A0 (mid ++ (ws ++ tl))) (isC isR : List Nat) (hC : isC.map (fun i => ws[i]?) = wc.map some) (hR : isR.map (fun i => ws[i]?) = wr.map some) (hn : va_nd isR = true) (hdis : ∀ i ∈ isR, i ∉ isC)
    (hk : ∀ q : Nat, q < H.size → ¬ va_A (wc ++ tl) H.size q → H1[q]? = H[q]?) (hF : ∀ q, va_A (wc ++ tl) H.size q → A0 q) (hP1 : va_P D vwCl (w0 ++ tl') H1) (hD1 : va_D (va_A (wc ++ tl) H.size) (w0 ++ tl')) : va_P D vwCl ((wr ++ w0) ++ (mid ++ tl')) H1 ∧ va_D A0 ((wr ++ w0) ++ (mid ++ tl')) := by
  obtain ⟨dm, dw, cr⟩ := hD.sp
  obtain ⟨g1, g2⟩ := join_tail hP.spl.2 dw isC isR hC hR hn hdis hk hF hP1 hD1
  have apart : ∀ p ∈ mid, p.1 < H.size ∧ ¬ va_A (wc ++ tl) H.size p.1 := by
    intro p hp
    obtain ⟨i, hi⟩ := List.getElem?_of_mem hp
    have hl := (hP.spl.1 i p hi).lt
    refine ⟨hl, fun h => ?_⟩
    rcases h with ⟨k2, e, h⟩ | h
    · by_cases hk2 : k2 < wc.length
      · rw [List.getElem?_append_left hk2] at h
        obtain ⟨j, -, h4⟩ := at_of hC k2 (p.1, e) h
        exact cr p hp (p.1, e) (List.mem_append_left _ (List.mem_of_getElem? h4)) rfl
      · rw [List.getElem?_append_right (by omega)] at h
        exact cr p hp (p.1, e) (List.mem_append_right _ (List.mem_of_getElem? h)) rfl
    · omega
  have hPm : va_P D vwCl mid H1 := fun i p hi => (hP.spl.1 i p hi).kept (hk p.1 (apart p (List.mem_of_getElem? hi)).1 (apart p (List.mem_of_getElem? hi)).2)
  have hDm : va_D A0 (mid ++ (wr ++ (w0 ++ tl'))) := va_D.ap dm g2 (fun p hp q hq => by
    rcases List.mem_append.mp hq with g | g
    · obtain ⟨i, hi⟩ := List.getElem?_of_mem g
      obtain ⟨j, -, h4⟩ := at_of hR i q hi
      exact cr p hp q (List.mem_append_left _ (List.mem_of_getElem? h4))
    · obtain ⟨i, hi⟩ := List.getElem?_of_mem g
      have := hD1.2 i q hi
      exact fun e => (apart p hp).2 (by rw [e]; exact this))
  have q1 : PD D A0 (mid ++ ((wr ++ w0) ++ tl')) H1 := by rw [List.append_assoc]; exact ⟨hPm.app g1, hDm⟩
  exact PD.swap q1
section CX2
variable {p : Program} {l : Launch} {e : Env} {R : Room} {s : State} {m : MethodId} {args : Array Value} {below : List Frame} {meth : Method} {c : Code} {H : Heap} {locs : List Loc} {Q : State → Prop} {D : va_G} {k : Nat → ClassId} {A : Nat → Prop} {b0 : Bool} {r : Ry}
variable {y : MethodName} {bytes cc : ByteArray} {maxL nL n index j pc b ci N : Nat} {ret : Option FieldType} {own : String} {As rest st : List Value} {ls : Array Slot} {wc wr ws : va_W} {T : u_T} {fs : List Value} {σ : Type} {ry : σ → Ry} {val : σ → Option Value} {φ : σ → Prop} {post : σ → va_W}
theorem CKV2 {cells slots : Nat} {tl : va_W} (hx : p.tables.exec = Jvm.exec) (hb : c.code = cc) (hml : c.maxLocals = nL) (hown : s.vm.findClass own = some m.cls) (hts : ∀ w ∈ gw, w.before args s = true) (hK : KK D k s) (hP : va_P D vwCl (ws ++ tl) H) (hD : va_D A (ws ++ tl)) (hS : va_S A s.heap H locs) (hA : ∀ q : Nat, s.heap.size ≤ q → A q) (hM : WD l y bytes maxL ret j 0 0 D k (.ref b :: As) wc val φ post) (cI : CIv y bytes maxL ret n) (hlink : Cond.methodLink own index y ∈ gw) (hR : j + 1 ≤ R.frames ∧ 8 + (maxL + 11) + 40 * j ≤ R.locals) (hce : cells ≤ R.cells ∧ slots ≤ R.slots)
    (isC isR : List Nat) (hC : isC.map (fun i => ws[i]?) = wc.map some) (hC2 : isC.filterMap (fun i => ws[i]?) = wc) (hRr : isR.map (fun i => ws[i]?) = (pick ws isR).map some) (hnC : va_nd isC = true) (hnR : va_nd isR = true) (hdis : ∀ i ∈ isR, i ∉ isC)
    (q0 : Nat) (he : wc[q0]? = some (b, .inr (ci, fs))) (hc : vwCl[ci]? = some (y.cls, T, N)) (hn : As.length = n) (hsz : ls.size = nL) (hst : st = As.reverse ++ .ref b :: rest) (hW : (rest.map fun v => v.category).sum ≤ 8) (hdg : decode cc pc = .ok (.invokevirtual index, 3))
    (kk : ∀ (u : σ) (H1 : Heap) (locs1 : List Loc), φ u → va_P D vwCl ((pick ws isR ++ post u) ++ tl) H1 → va_D A ((pick ws isR ++ post u) ++ tl) → va_S A s.heap H1 locs1 → W p l e R s m args below meth c H1 locs1 cells slots Q (F0 m (pc + 3) ls ((val u).toList ++ rest))) : W p l e R s m args below meth c H locs cells slots Q (F0 m pc ls st) :=
  CKV (wr := pick ws isR) hx hb hml hown hts hK hP hD hS hA hM cI hlink hR hce isC isR hC hC2 hRr hnC hnR hdis q0 he hc hn hsz hst hW hdg kk
end CX2
section LR2
variable {p : Program} {l : Launch} {e : Env} {R : Room} {s : State} {m : MethodId} {args : Array Value} {below : List Frame} {meth : Method} {c : Code} {H : Heap} {locs : List Loc} {pc : Nat} {D : va_G} {A : Nat → Prop} {cc : ByteArray} {ls : Array Slot} {σ : Type} {ry : σ → Ry} {val : σ → Option Value} {φ : σ → Prop} {post : σ → va_W} {k : Nat → ClassId} {r : Ry} {Q : State → Prop}
variable {y : MethodName} {bytes : ByteArray} {maxL nL n index j b ci N c0 s0 : Nat} {ret : Option FieldType} {own : String} {As rest st : List Value} {wc wr ws : va_W} {T : u_T} {fs : List Value}
theorem CKSV2 {cells slots : Nat} {tl : va_W} {sa sv : Nat} (hx : p.tables.exec = Jvm.exec) (hb : c.code = cc) (hml : c.maxLocals = nL) (hown : s.vm.findClass own = some m.cls) (hts : ∀ w ∈ gw, w.before args s = true) (hK : KK D k s) (hP : va_P D vwCl (ws ++ tl) H) (hD : va_D A (ws ++ tl)) (hS : va_S A s.heap H locs) (hA : ∀ q : Nat, s.heap.size ≤ q → A q) (hSY : SY sa sv keyF A s s.heap) (hRR : vk_R RX12 175 keyT sa s) (hM : SD sa sv l y bytes maxL ret j D k (.ref b :: As) wc val φ post) (cI : CIv y bytes maxL ret n) (hlink : Cond.methodLink own index y ∈ gw) (hR : j + 1 ≤ R.frames ∧ 8 + (maxL + 11) + 40 * j ≤ R.locals) (hce : cells ≤ R.cells ∧ slots ≤ R.slots)
    (isC isR : List Nat) (hC : isC.map (fun i => ws[i]?) = wc.map some) (hC2 : isC.filterMap (fun i => ws[i]?) = wc) (hRr : isR.map (fun i => ws[i]?) = (pick ws isR).map some) (hnC : va_nd isC = true) (hnR : va_nd isR = true) (hdis : ∀ i ∈ isR, i ∉ isC)
    (q0 : Nat) (he : wc[q0]? = some (b, .inr (ci, fs))) (hc : vwCl[ci]? = some (y.cls, T, N)) (hn : As.length = n) (hsz : ls.size = nL) (hst : st = As.reverse ++ .ref b :: rest) (hW : (rest.map fun v => v.category).sum ≤ 8) (hdg : decode cc pc = .ok (.invokevirtual index, 3))
    (kk : ∀ (u : σ) (H1 : Heap) (locs1 : List Loc), φ u → va_P D vwCl ((pick ws isR ++ post u) ++ tl) H1 → va_D A ((pick ws isR ++ post u) ++ tl) → va_S A s.heap H1 locs1 → W p l e R s m args below meth c H1 locs1 cells slots Q (F0 m (pc + 3) ls ((val u).toList ++ rest))) : W p l e R s m args below meth c H locs cells slots Q (F0 m pc ls st) :=
  CKSV (wr := pick ws isR) hx hb hml hown hts hK hP hD hS hA hSY hRR hM cI hlink hR hce isC isR hC hC2 hRr hnC hnR hdis q0 he hc hn hsz hst hW hdg kk
theorem CXM {mid : va_W} (hx : p.tables.exec = Jvm.exec) (hb : c.code = cc) (hml : c.maxLocals = nL) (hown : s.vm.findClass own = some m.cls) (hts : ∀ w ∈ gw, w.before args s = true) (hK : KK D k s) (hP : va_P D vwCl (ws ++ (mid ++ r.tl)) H) (hD : va_D A (ws ++ (mid ++ r.tl))) (hS : va_S A s.heap H locs) (hA : ∀ q : Nat, s.heap.size ≤ q → A q) (hM : XD l y bytes maxL ret j r D k (.ref b :: As) wc ry val φ post) (cI : CIv y bytes maxL ret n) (hlink : Cond.methodLink own index y ∈ gw) (hR : j + 1 ≤ R.frames ∧ 8 + (maxL + 11) + 40 * j ≤ R.locals) (hce : c0 + 2 ≤ R.cells ∧ s0 + 28872 ≤ R.slots)
    (isC isR : List Nat) (hC : isC.map (fun i => ws[i]?) = wc.map some) (hC2 : isC.filterMap (fun i => ws[i]?) = wc) (hRr : isR.map (fun i => ws[i]?) = (pick ws isR).map some) (hnC : va_nd isC = true) (hnR : va_nd isR = true) (hdis : ∀ i ∈ isR, i ∉ isC)
    (q0 : Nat) (he : wc[q0]? = some (b, .inr (ci, fs))) (hc : vwCl[ci]? = some (y.cls, T, N)) (hn : As.length = n) (hsz : ls.size = nL) (hst : st = As.reverse ++ .ref b :: rest) (hW : (rest.map fun v => v.category).sum ≤ 8) (hdg : decode cc pc = .ok (.invokevirtual index, 3))
    (kk : ∀ (u : σ) (H1 : Heap) (locs1 : List Loc), φ u → va_P D vwCl ((pick ws isR ++ post u) ++ (mid ++ (ry u).tl)) H1 → va_D A ((pick ws isR ++ post u) ++ (mid ++ (ry u).tl)) → va_S A s.heap H1 locs1 → W p l e R s m args below meth c H1 locs1 (c0 + cz true (ry u).b) (s0 + sz true (ry u).b) Q (F0 m (pc + 3) ls ((val u).toList ++ rest))) : W p l e R s m args below meth c H locs (c0 + cz true r.b) (s0 + sz true r.b) Q (F0 m pc ls st) := by
  obtain ⟨hP2, hD2⟩ := PD.swap ⟨hP, hD⟩
  have hPt := hP2.spl.2
  obtain ⟨-, hDt, -⟩ := hD2.sp
  have hPc := hPt.subT isC hC2
  have hDc := hDt.subT isC hnC hC
  have hFc := free_tail hDt hS hA isC hC
  have hce2 : c0 + cz true r.b + rcN r.b ≤ R.cells ∧ s0 + sz true r.b + rsN r.b ≤ R.slots := by
    cases r.b with
    | true => exact ⟨Nat.le_trans (show c0 + 0 + 2 ≤ c0 + 2 by omega) hce.1, Nat.le_trans (show s0 + 0 + 28872 ≤ s0 + 28872 by omega) hce.2⟩
    | false => exact ⟨Nat.le_trans (show c0 + 2 + 0 ≤ c0 + 2 by omega) hce.1, Nat.le_trans (show s0 + 28872 + 0 ≤ s0 + 28872 by omega) hce.2⟩
  refine callXL (va_runV (As := As) (rest := rest) (b := b) ⟨hx, hb, hml, hown, hts⟩ (Met.ss (hM H.size)) (cwVx hts cI hlink hR) ⟨PW.blind, va_recv hK.1 hPc.spl.1 hc he, fun U hU hW => ⟨rfl, by rw [hU], by rw [hU]; exact hPc, hK.warm hW, hDc.weaken (fun _ _ _ _ => trivial)⟩⟩ rfl hn hsz hst (lv_room hW) hdg hce2) hS (fun q _ h => hFc q h) hFc (fun u H1 locs1 hφ hP1 hD1 hk1 hS1 => ?_)
  obtain ⟨g1, g2⟩ := join_mid hP2 hD2 isC isR hC hRr hnR hdis hk1 hFc hP1 hD1
  exact kk u H1 locs1 hφ g1 g2 hS1
end LR2
end

section
theorem qm_X5_3 : Cond.methodLink RX5 3 objectInit ∈ gw := tbt (tb1 (List.mem_of_getElem? (i := 43) rfl)) rfl
theorem qi_objectInit : Cond.instanceMethod objectInit ∈ gw := tbt (tb1 (List.mem_of_getElem? (i := 28) rfl)) rfl
theorem qc_objectInit : Cond.code objectInit ⟨#[0xb1]⟩ 1 none ∈ gw := tbt (tb1 (List.mem_of_getElem? (i := 29) rfl)) rfl
theorem qa_long : Cond.arrayClass .long ∈ gw := tbt (tb1 (List.mem_of_getElem? (i := 82) rfl)) rfl
theorem qm_X0_3 : Cond.methodLink RX0 3 objectInit ∈ gw := tbt (tb1 (List.mem_of_getElem? (i := 89) rfl)) rfl
theorem qm_X9_3 : Cond.methodLink RX9 3 objectInit ∈ gw := tbt (tb1 (List.mem_of_getElem? (i := 128) rfl)) rfl
theorem qm_X7_3 : Cond.methodLink RX7 3 objectInit ∈ gw := tbt (tb2 (List.mem_of_getElem? (i := 182) rfl)) rfl
theorem qm_X8_3 : Cond.methodLink RX8 3 objectInit ∈ gw := tbt (tb1 (List.mem_of_getElem? (i := 37) rfl)) rfl
theorem ql_X8_9 : Cond.classLink RX8 9 RX5 ∈ gw := tbt (tb1 (List.mem_of_getElem? (i := 38) rfl)) rfl
theorem qy_X5 : Cond.instantiable RX5 7 ∈ gw := tbt (tb1 (List.mem_of_getElem? (i := 39) rfl)) rfl
theorem qc_X5_init : Cond.code yX5_init cX5_init 1 none ∈ gw := tbt (tb1 (List.mem_of_getElem? (i := 42) rfl)) rfl
theorem qi_yX5_init : Cond.instanceMethod yX5_init ∈ gw := tbt (tb1 (List.mem_of_getElem? (i := 41) rfl)) rfl
theorem ci_X5_init : CIi yX5_init cX5_init 1 0 := ⟨qc_X5_init, qi_yX5_init, qz_X5, rfl, by decide +kernel⟩
theorem ql_X8_18 : Cond.classLink RX8 18 RX0 ∈ gw := tbt (tb1 (List.mem_of_getElem? (i := 84) rfl)) rfl
theorem qy_X0 : Cond.instantiable RX0 6 ∈ gw := tbt (tb1 (List.mem_of_getElem? (i := 85) rfl)) rfl
theorem qc_X0_init : Cond.code yX0_init cX0_init 1 none ∈ gw := tbt (tb1 (List.mem_of_getElem? (i := 88) rfl)) rfl
theorem qi_yX0_init : Cond.instanceMethod yX0_init ∈ gw := tbt (tb1 (List.mem_of_getElem? (i := 87) rfl)) rfl
theorem ci_X0_init : CIi yX0_init cX0_init 1 0 := ⟨qc_X0_init, qi_yX0_init, qz_X0, rfl, by decide +kernel⟩
theorem ql_X8_25 : Cond.classLink RX8 25 RX9 ∈ gw := tbt (tb1 (List.mem_of_getElem? (i := 123) rfl)) rfl
theorem qy_X9 : Cond.instantiable RX9 8 ∈ gw := tbt (tb1 (List.mem_of_getElem? (i := 124) rfl)) rfl
theorem qc_X9_init : Cond.code yX9_init cX9_init 1 none ∈ gw := tbt (tb1 (List.mem_of_getElem? (i := 127) rfl)) rfl
theorem qi_yX9_init : Cond.instanceMethod yX9_init ∈ gw := tbt (tb1 (List.mem_of_getElem? (i := 126) rfl)) rfl
theorem ci_X9_init : CIi yX9_init cX9_init 1 0 := ⟨qc_X9_init, qi_yX9_init, qz_X9, rfl, by decide +kernel⟩
theorem qm_X6_3 : Cond.methodLink RX6 3 objectInit ∈ gw := tbt (tb2 (List.mem_of_getElem? (i := 51) rfl)) rfl
theorem qm_X10_3 : Cond.methodLink RX10 3 objectInit ∈ gw := tbt (tb2 (List.mem_of_getElem? (i := 67) rfl)) rfl
theorem qm_X3_5 : Cond.methodLink RX3 5 objectInit ∈ gw := tbt (tb2 (List.mem_of_getElem? (i := 89) rfl)) rfl
theorem qm_X2_3 : Cond.methodLink RX2 3 objectInit ∈ gw := tbt (tb2 (List.mem_of_getElem? (i := 108) rfl)) rfl
theorem qm_X1_3 : Cond.methodLink RX1 3 objectInit ∈ gw := tbt (tb2 (List.mem_of_getElem? (i := 137) rfl)) rfl
theorem qm_X4_3 : Cond.methodLink RX4 3 objectInit ∈ gw := tbt (tb1 (List.mem_of_getElem? (i := 190) rfl)) rfl
theorem qa_byte : Cond.arrayClass .byte ∈ gw := tbt (tb2 (List.mem_of_getElem? (i := 45) rfl)) rfl
theorem qm_X4_28 : Cond.methodLink RX4 28 yJ0_length_8abf5 ∈ gw := tbt (tb1 (List.mem_of_getElem? (i := 192) rfl)) rfl
theorem qm_X4_34 : Cond.methodLink RX4 34 yJ0_charAt_5068e ∈ gw := tbt (tb1 (List.mem_of_getElem? (i := 202) rfl)) rfl
def fb_X0_init_0 : List UInt8 := [0x2a, 0xb7, 0x00, 0x03, 0x2a, 0x11, 0x01, 0x91, 0xbc, 0x0a, 0xb5, 0x00, 0x09, 0x2a, 0x10, 0x14, 0xbc, 0x0a, 0xb5, 0x00, 0x0f, 0x2a, 0x10, 0x14, 0xbc, 0x0a, 0xb5, 0x00, 0x12, 0x2a, 0x10, 0x78, 0xbc, 0x0a, 0xb5, 0x00, 0x15, 0xb1]
theorem fl_X0_init_0 {p j : Nat} {b : UInt8} (e : p = 0 + j) (h : fb_X0_init_0[j]? = some b) : cX0_init.data.toList[p]? = some b := fq_l (n := 64) (show (cX0_init.data.toList.drop 0).take 64 = fb_X0_init_0 by decide +kernel) e h
theorem dX0_init_0 : decode cX0_init 0 = .ok (.aload_n 0, 1) := fq1_42 (fl_X0_init_0 (j := 0) rfl rfl)
theorem dX0_init_1 : decode cX0_init 1 = .ok (.invokespecial 3, 3) := fq3_183 (fl_X0_init_0 (j := 1) rfl rfl) (fl_X0_init_0 (j := 2) rfl rfl) (fl_X0_init_0 (j := 3) rfl rfl) rfl
theorem dX0_init_4 : decode cX0_init 4 = .ok (.aload_n 0, 1) := fq1_42 (fl_X0_init_0 (j := 4) rfl rfl)
theorem dX0_init_5 : decode cX0_init 5 = .ok (.sipush 401, 3) := fq3_17 (fl_X0_init_0 (j := 5) rfl rfl) (fl_X0_init_0 (j := 6) rfl rfl) (fl_X0_init_0 (j := 7) rfl rfl) (s2p rfl (bl rfl))
theorem dX0_init_8 : decode cX0_init 8 = .ok (.newarray .int, 2) := by decide +kernel
theorem dX0_init_10 : decode cX0_init 10 = .ok (.putfield 9, 3) := fq3_181 (fl_X0_init_0 (j := 10) rfl rfl) (fl_X0_init_0 (j := 11) rfl rfl) (fl_X0_init_0 (j := 12) rfl rfl) rfl
theorem dX0_init_13 : decode cX0_init 13 = .ok (.aload_n 0, 1) := fq1_42 (fl_X0_init_0 (j := 13) rfl rfl)
theorem dX0_init_14 : decode cX0_init 14 = .ok (.bipush 20, 2) := fq2_16 (fl_X0_init_0 (j := 14) rfl rfl) (fl_X0_init_0 (j := 15) rfl rfl) (s1p rfl (bl rfl))
theorem dX0_init_16 : decode cX0_init 16 = .ok (.newarray .int, 2) := by decide +kernel
theorem dX0_init_18 : decode cX0_init 18 = .ok (.putfield 15, 3) := fq3_181 (fl_X0_init_0 (j := 18) rfl rfl) (fl_X0_init_0 (j := 19) rfl rfl) (fl_X0_init_0 (j := 20) rfl rfl) rfl
theorem dX0_init_21 : decode cX0_init 21 = .ok (.aload_n 0, 1) := fq1_42 (fl_X0_init_0 (j := 21) rfl rfl)
theorem dX0_init_22 : decode cX0_init 22 = .ok (.bipush 20, 2) := fq2_16 (fl_X0_init_0 (j := 22) rfl rfl) (fl_X0_init_0 (j := 23) rfl rfl) (s1p rfl (bl rfl))
theorem dX0_init_24 : decode cX0_init 24 = .ok (.newarray .int, 2) := by decide +kernel
theorem dX0_init_26 : decode cX0_init 26 = .ok (.putfield 18, 3) := fq3_181 (fl_X0_init_0 (j := 26) rfl rfl) (fl_X0_init_0 (j := 27) rfl rfl) (fl_X0_init_0 (j := 28) rfl rfl) rfl
theorem dX0_init_29 : decode cX0_init 29 = .ok (.aload_n 0, 1) := fq1_42 (fl_X0_init_0 (j := 29) rfl rfl)
theorem dX0_init_30 : decode cX0_init 30 = .ok (.bipush 120, 2) := fq2_16 (fl_X0_init_0 (j := 30) rfl rfl) (fl_X0_init_0 (j := 31) rfl rfl) (s1p rfl (bl rfl))
theorem dX0_init_32 : decode cX0_init 32 = .ok (.newarray .int, 2) := by decide +kernel
theorem dX0_init_34 : decode cX0_init 34 = .ok (.putfield 21, 3) := fq3_181 (fl_X0_init_0 (j := 34) rfl rfl) (fl_X0_init_0 (j := 35) rfl rfl) (fl_X0_init_0 (j := 36) rfl rfl) rfl
theorem dX0_init_37 : decode cX0_init 37 = .ok (.return_, 1) := fq1_177 (fl_X0_init_0 (j := 37) rfl rfl)
def fb_X10_init_0 : List UInt8 := [0x2a, 0xb7, 0x00, 0x03, 0x2a, 0x06, 0xbc, 0x0a, 0xb5, 0x00, 0x09, 0x2a, 0x2b, 0xb5, 0x00, 0x0f, 0xb1]
theorem fl_X10_init_0 {p j : Nat} {b : UInt8} (e : p = 0 + j) (h : fb_X10_init_0[j]? = some b) : cX10_init.data.toList[p]? = some b := fq_l (n := 64) (show (cX10_init.data.toList.drop 0).take 64 = fb_X10_init_0 by decide +kernel) e h
theorem dX10_init_0 : decode cX10_init 0 = .ok (.aload_n 0, 1) := fq1_42 (fl_X10_init_0 (j := 0) rfl rfl)
theorem dX10_init_1 : decode cX10_init 1 = .ok (.invokespecial 3, 3) := fq3_183 (fl_X10_init_0 (j := 1) rfl rfl) (fl_X10_init_0 (j := 2) rfl rfl) (fl_X10_init_0 (j := 3) rfl rfl) rfl
theorem dX10_init_4 : decode cX10_init 4 = .ok (.aload_n 0, 1) := fq1_42 (fl_X10_init_0 (j := 4) rfl rfl)
theorem dX10_init_5 : decode cX10_init 5 = .ok (.iconst 3, 1) := fq1_6 (fl_X10_init_0 (j := 5) rfl rfl)
theorem dX10_init_6 : decode cX10_init 6 = .ok (.newarray .int, 2) := by decide +kernel
theorem dX10_init_8 : decode cX10_init 8 = .ok (.putfield 9, 3) := fq3_181 (fl_X10_init_0 (j := 8) rfl rfl) (fl_X10_init_0 (j := 9) rfl rfl) (fl_X10_init_0 (j := 10) rfl rfl) rfl
theorem dX10_init_11 : decode cX10_init 11 = .ok (.aload_n 0, 1) := fq1_42 (fl_X10_init_0 (j := 11) rfl rfl)
theorem dX10_init_12 : decode cX10_init 12 = .ok (.aload_n 1, 1) := fq1_43 (fl_X10_init_0 (j := 12) rfl rfl)
theorem dX10_init_13 : decode cX10_init 13 = .ok (.putfield 15, 3) := fq3_181 (fl_X10_init_0 (j := 13) rfl rfl) (fl_X10_init_0 (j := 14) rfl rfl) (fl_X10_init_0 (j := 15) rfl rfl) rfl
theorem dX10_init_16 : decode cX10_init 16 = .ok (.return_, 1) := fq1_177 (fl_X10_init_0 (j := 16) rfl rfl)
def fb_X1_init_0 : List UInt8 := [0x2a, 0xb7, 0x00, 0x03, 0x2a, 0x10, 0x3c, 0xbc, 0x0a, 0xb5, 0x00, 0x0b, 0x2a, 0x2b, 0xb5, 0x00, 0x11, 0x2a, 0x2c, 0xb5, 0x00, 0x15, 0x2a, 0x2d, 0xb5, 0x00, 0x19, 0xb1]
theorem fl_X1_init_0 {p j : Nat} {b : UInt8} (e : p = 0 + j) (h : fb_X1_init_0[j]? = some b) : cX1_init.data.toList[p]? = some b := fq_l (n := 64) (show (cX1_init.data.toList.drop 0).take 64 = fb_X1_init_0 by decide +kernel) e h
theorem dX1_init_0 : decode cX1_init 0 = .ok (.aload_n 0, 1) := fq1_42 (fl_X1_init_0 (j := 0) rfl rfl)
theorem dX1_init_1 : decode cX1_init 1 = .ok (.invokespecial 3, 3) := fq3_183 (fl_X1_init_0 (j := 1) rfl rfl) (fl_X1_init_0 (j := 2) rfl rfl) (fl_X1_init_0 (j := 3) rfl rfl) rfl
theorem dX1_init_4 : decode cX1_init 4 = .ok (.aload_n 0, 1) := fq1_42 (fl_X1_init_0 (j := 4) rfl rfl)
theorem dX1_init_5 : decode cX1_init 5 = .ok (.bipush 60, 2) := fq2_16 (fl_X1_init_0 (j := 5) rfl rfl) (fl_X1_init_0 (j := 6) rfl rfl) (s1p rfl (bl rfl))
theorem dX1_init_7 : decode cX1_init 7 = .ok (.newarray .int, 2) := by decide +kernel
theorem dX1_init_9 : decode cX1_init 9 = .ok (.putfield 11, 3) := fq3_181 (fl_X1_init_0 (j := 9) rfl rfl) (fl_X1_init_0 (j := 10) rfl rfl) (fl_X1_init_0 (j := 11) rfl rfl) rfl
theorem dX1_init_12 : decode cX1_init 12 = .ok (.aload_n 0, 1) := fq1_42 (fl_X1_init_0 (j := 12) rfl rfl)
theorem dX1_init_13 : decode cX1_init 13 = .ok (.aload_n 1, 1) := fq1_43 (fl_X1_init_0 (j := 13) rfl rfl)
theorem dX1_init_14 : decode cX1_init 14 = .ok (.putfield 17, 3) := fq3_181 (fl_X1_init_0 (j := 14) rfl rfl) (fl_X1_init_0 (j := 15) rfl rfl) (fl_X1_init_0 (j := 16) rfl rfl) rfl
theorem dX1_init_17 : decode cX1_init 17 = .ok (.aload_n 0, 1) := fq1_42 (fl_X1_init_0 (j := 17) rfl rfl)
theorem dX1_init_18 : decode cX1_init 18 = .ok (.aload_n 2, 1) := fq1_44 (fl_X1_init_0 (j := 18) rfl rfl)
theorem dX1_init_19 : decode cX1_init 19 = .ok (.putfield 21, 3) := fq3_181 (fl_X1_init_0 (j := 19) rfl rfl) (fl_X1_init_0 (j := 20) rfl rfl) (fl_X1_init_0 (j := 21) rfl rfl) rfl
theorem dX1_init_22 : decode cX1_init 22 = .ok (.aload_n 0, 1) := fq1_42 (fl_X1_init_0 (j := 22) rfl rfl)
theorem dX1_init_23 : decode cX1_init 23 = .ok (.aload_n 3, 1) := fq1_45 (fl_X1_init_0 (j := 23) rfl rfl)
theorem dX1_init_24 : decode cX1_init 24 = .ok (.putfield 25, 3) := fq3_181 (fl_X1_init_0 (j := 24) rfl rfl) (fl_X1_init_0 (j := 25) rfl rfl) (fl_X1_init_0 (j := 26) rfl rfl) rfl
theorem dX1_init_27 : decode cX1_init 27 = .ok (.return_, 1) := fq1_177 (fl_X1_init_0 (j := 27) rfl rfl)
def fb_X2_init_0 : List UInt8 := [0x2a, 0xb7, 0x00, 0x03, 0x2a, 0x10, 0x06, 0xbc, 0x0a, 0xb5, 0x00, 0x09, 0x2a, 0x10, 0x06, 0xbc, 0x0a, 0xb5, 0x00, 0x0f, 0x2a, 0x10, 0x06, 0xbc, 0x0a, 0xb5, 0x00, 0x12, 0x2a, 0x10, 0x7e, 0xbc, 0x0a, 0xb5, 0x00, 0x15, 0x2a, 0x2b, 0xb5, 0x00, 0x18, 0x2a, 0x2c, 0xb5, 0x00, 0x1c, 0xb1]
theorem fl_X2_init_0 {p j : Nat} {b : UInt8} (e : p = 0 + j) (h : fb_X2_init_0[j]? = some b) : cX2_init.data.toList[p]? = some b := fq_l (n := 64) (show (cX2_init.data.toList.drop 0).take 64 = fb_X2_init_0 by decide +kernel) e h
theorem dX2_init_0 : decode cX2_init 0 = .ok (.aload_n 0, 1) := fq1_42 (fl_X2_init_0 (j := 0) rfl rfl)
theorem dX2_init_1 : decode cX2_init 1 = .ok (.invokespecial 3, 3) := fq3_183 (fl_X2_init_0 (j := 1) rfl rfl) (fl_X2_init_0 (j := 2) rfl rfl) (fl_X2_init_0 (j := 3) rfl rfl) rfl
theorem dX2_init_4 : decode cX2_init 4 = .ok (.aload_n 0, 1) := fq1_42 (fl_X2_init_0 (j := 4) rfl rfl)
theorem dX2_init_5 : decode cX2_init 5 = .ok (.bipush 6, 2) := fq2_16 (fl_X2_init_0 (j := 5) rfl rfl) (fl_X2_init_0 (j := 6) rfl rfl) (s1p rfl (bl rfl))
theorem dX2_init_7 : decode cX2_init 7 = .ok (.newarray .int, 2) := by decide +kernel
theorem dX2_init_9 : decode cX2_init 9 = .ok (.putfield 9, 3) := fq3_181 (fl_X2_init_0 (j := 9) rfl rfl) (fl_X2_init_0 (j := 10) rfl rfl) (fl_X2_init_0 (j := 11) rfl rfl) rfl
theorem dX2_init_12 : decode cX2_init 12 = .ok (.aload_n 0, 1) := fq1_42 (fl_X2_init_0 (j := 12) rfl rfl)
theorem dX2_init_13 : decode cX2_init 13 = .ok (.bipush 6, 2) := fq2_16 (fl_X2_init_0 (j := 13) rfl rfl) (fl_X2_init_0 (j := 14) rfl rfl) (s1p rfl (bl rfl))
theorem dX2_init_15 : decode cX2_init 15 = .ok (.newarray .int, 2) := by decide +kernel
theorem dX2_init_17 : decode cX2_init 17 = .ok (.putfield 15, 3) := fq3_181 (fl_X2_init_0 (j := 17) rfl rfl) (fl_X2_init_0 (j := 18) rfl rfl) (fl_X2_init_0 (j := 19) rfl rfl) rfl
theorem dX2_init_20 : decode cX2_init 20 = .ok (.aload_n 0, 1) := fq1_42 (fl_X2_init_0 (j := 20) rfl rfl)
theorem dX2_init_21 : decode cX2_init 21 = .ok (.bipush 6, 2) := fq2_16 (fl_X2_init_0 (j := 21) rfl rfl) (fl_X2_init_0 (j := 22) rfl rfl) (s1p rfl (bl rfl))
theorem dX2_init_23 : decode cX2_init 23 = .ok (.newarray .int, 2) := by decide +kernel
theorem dX2_init_25 : decode cX2_init 25 = .ok (.putfield 18, 3) := fq3_181 (fl_X2_init_0 (j := 25) rfl rfl) (fl_X2_init_0 (j := 26) rfl rfl) (fl_X2_init_0 (j := 27) rfl rfl) rfl
theorem dX2_init_28 : decode cX2_init 28 = .ok (.aload_n 0, 1) := fq1_42 (fl_X2_init_0 (j := 28) rfl rfl)
theorem dX2_init_29 : decode cX2_init 29 = .ok (.bipush 126, 2) := fq2_16 (fl_X2_init_0 (j := 29) rfl rfl) (fl_X2_init_0 (j := 30) rfl rfl) (s1p rfl (bl rfl))
theorem dX2_init_31 : decode cX2_init 31 = .ok (.newarray .int, 2) := by decide +kernel
theorem dX2_init_33 : decode cX2_init 33 = .ok (.putfield 21, 3) := fq3_181 (fl_X2_init_0 (j := 33) rfl rfl) (fl_X2_init_0 (j := 34) rfl rfl) (fl_X2_init_0 (j := 35) rfl rfl) rfl
theorem dX2_init_36 : decode cX2_init 36 = .ok (.aload_n 0, 1) := fq1_42 (fl_X2_init_0 (j := 36) rfl rfl)
theorem dX2_init_37 : decode cX2_init 37 = .ok (.aload_n 1, 1) := fq1_43 (fl_X2_init_0 (j := 37) rfl rfl)
theorem dX2_init_38 : decode cX2_init 38 = .ok (.putfield 24, 3) := fq3_181 (fl_X2_init_0 (j := 38) rfl rfl) (fl_X2_init_0 (j := 39) rfl rfl) (fl_X2_init_0 (j := 40) rfl rfl) rfl
theorem dX2_init_41 : decode cX2_init 41 = .ok (.aload_n 0, 1) := fq1_42 (fl_X2_init_0 (j := 41) rfl rfl)
theorem dX2_init_42 : decode cX2_init 42 = .ok (.aload_n 2, 1) := fq1_44 (fl_X2_init_0 (j := 42) rfl rfl)
theorem dX2_init_43 : decode cX2_init 43 = .ok (.putfield 28, 3) := fq3_181 (fl_X2_init_0 (j := 43) rfl rfl) (fl_X2_init_0 (j := 44) rfl rfl) (fl_X2_init_0 (j := 45) rfl rfl) rfl
theorem dX2_init_46 : decode cX2_init 46 = .ok (.return_, 1) := fq1_177 (fl_X2_init_0 (j := 46) rfl rfl)
def fb_X3_init_0 : List UInt8 := [0x2a, 0xb7, 0x00, 0x05, 0x2a, 0x2b, 0xb5, 0x00, 0x0b, 0xb1]
theorem fl_X3_init_0 {p j : Nat} {b : UInt8} (e : p = 0 + j) (h : fb_X3_init_0[j]? = some b) : cX3_init.data.toList[p]? = some b := fq_l (n := 64) (show (cX3_init.data.toList.drop 0).take 64 = fb_X3_init_0 by decide +kernel) e h
theorem dX3_init_0 : decode cX3_init 0 = .ok (.aload_n 0, 1) := fq1_42 (fl_X3_init_0 (j := 0) rfl rfl)
theorem dX3_init_1 : decode cX3_init 1 = .ok (.invokespecial 5, 3) := fq3_183 (fl_X3_init_0 (j := 1) rfl rfl) (fl_X3_init_0 (j := 2) rfl rfl) (fl_X3_init_0 (j := 3) rfl rfl) rfl
theorem dX3_init_4 : decode cX3_init 4 = .ok (.aload_n 0, 1) := fq1_42 (fl_X3_init_0 (j := 4) rfl rfl)
theorem dX3_init_5 : decode cX3_init 5 = .ok (.aload_n 1, 1) := fq1_43 (fl_X3_init_0 (j := 5) rfl rfl)
theorem dX3_init_6 : decode cX3_init 6 = .ok (.putfield 11, 3) := fq3_181 (fl_X3_init_0 (j := 6) rfl rfl) (fl_X3_init_0 (j := 7) rfl rfl) (fl_X3_init_0 (j := 8) rfl rfl) rfl
theorem dX3_init_9 : decode cX3_init 9 = .ok (.return_, 1) := fq1_177 (fl_X3_init_0 (j := 9) rfl rfl)
def fb_X4_init_0 : List UInt8 := [0x2a, 0xb7, 0x00, 0x03, 0x2a, 0x11, 0x03, 0x84, 0xbc, 0x08, 0xb5, 0x00, 0x09, 0x2a, 0x10, 0x19, 0xbc, 0x0b, 0xb5, 0x00, 0x0f, 0x2a, 0x02, 0xb5, 0x00, 0x13, 0x2a, 0x02, 0xb5, 0x00, 0x17, 0x09, 0x40, 0x03, 0x3e, 0x03, 0x36, 0x04, 0x15, 0x04, 0x12, 0x1a, 0xb6, 0x00, 0x1c, 0xa2, 0x00, 0x3f, 0x1d, 0x10, 0x19, 0xa2, 0x00, 0x39, 0x12, 0x1a, 0x15, 0x04, 0xb6, 0x00, 0x22, 0x10, 0x20, 0xa0]
theorem fl_X4_init_0 {p j : Nat} {b : UInt8} (e : p = 0 + j) (h : fb_X4_init_0[j]? = some b) : cX4_init.data.toList[p]? = some b := fq_l (n := 64) (show (cX4_init.data.toList.drop 0).take 64 = fb_X4_init_0 by decide +kernel) e h
theorem dX4_init_0 : decode cX4_init 0 = .ok (.aload_n 0, 1) := fq1_42 (fl_X4_init_0 (j := 0) rfl rfl)
theorem dX4_init_1 : decode cX4_init 1 = .ok (.invokespecial 3, 3) := fq3_183 (fl_X4_init_0 (j := 1) rfl rfl) (fl_X4_init_0 (j := 2) rfl rfl) (fl_X4_init_0 (j := 3) rfl rfl) rfl
theorem dX4_init_4 : decode cX4_init 4 = .ok (.aload_n 0, 1) := fq1_42 (fl_X4_init_0 (j := 4) rfl rfl)
theorem dX4_init_5 : decode cX4_init 5 = .ok (.sipush 900, 3) := fq3_17 (fl_X4_init_0 (j := 5) rfl rfl) (fl_X4_init_0 (j := 6) rfl rfl) (fl_X4_init_0 (j := 7) rfl rfl) (s2p rfl (bl rfl))
theorem dX4_init_8 : decode cX4_init 8 = .ok (.newarray .byte, 2) := by decide +kernel
theorem dX4_init_10 : decode cX4_init 10 = .ok (.putfield 9, 3) := fq3_181 (fl_X4_init_0 (j := 10) rfl rfl) (fl_X4_init_0 (j := 11) rfl rfl) (fl_X4_init_0 (j := 12) rfl rfl) rfl
theorem dX4_init_13 : decode cX4_init 13 = .ok (.aload_n 0, 1) := fq1_42 (fl_X4_init_0 (j := 13) rfl rfl)
theorem dX4_init_14 : decode cX4_init 14 = .ok (.bipush 25, 2) := fq2_16 (fl_X4_init_0 (j := 14) rfl rfl) (fl_X4_init_0 (j := 15) rfl rfl) (s1p rfl (bl rfl))
theorem dX4_init_16 : decode cX4_init 16 = .ok (.newarray .long, 2) := by decide +kernel
theorem dX4_init_18 : decode cX4_init 18 = .ok (.putfield 15, 3) := fq3_181 (fl_X4_init_0 (j := 18) rfl rfl) (fl_X4_init_0 (j := 19) rfl rfl) (fl_X4_init_0 (j := 20) rfl rfl) rfl
theorem dX4_init_21 : decode cX4_init 21 = .ok (.aload_n 0, 1) := fq1_42 (fl_X4_init_0 (j := 21) rfl rfl)
theorem dX4_init_22 : decode cX4_init 22 = .ok (.iconst (-1), 1) := fq1_2 (fl_X4_init_0 (j := 22) rfl rfl)
theorem dX4_init_23 : decode cX4_init 23 = .ok (.putfield 19, 3) := fq3_181 (fl_X4_init_0 (j := 23) rfl rfl) (fl_X4_init_0 (j := 24) rfl rfl) (fl_X4_init_0 (j := 25) rfl rfl) rfl
theorem dX4_init_26 : decode cX4_init 26 = .ok (.aload_n 0, 1) := fq1_42 (fl_X4_init_0 (j := 26) rfl rfl)
theorem dX4_init_27 : decode cX4_init 27 = .ok (.iconst (-1), 1) := fq1_2 (fl_X4_init_0 (j := 27) rfl rfl)
theorem dX4_init_28 : decode cX4_init 28 = .ok (.putfield 23, 3) := fq3_181 (fl_X4_init_0 (j := 28) rfl rfl) (fl_X4_init_0 (j := 29) rfl rfl) (fl_X4_init_0 (j := 30) rfl rfl) rfl
theorem dX4_init_31 : decode cX4_init 31 = .ok (.lconst 0, 1) := fq1_9 (fl_X4_init_0 (j := 31) rfl rfl)
theorem dX4_init_32 : decode cX4_init 32 = .ok (.lstore_n 1, 1) := fq1_64 (fl_X4_init_0 (j := 32) rfl rfl)
theorem dX4_init_33 : decode cX4_init 33 = .ok (.iconst 0, 1) := fq1_3 (fl_X4_init_0 (j := 33) rfl rfl)
theorem dX4_init_34 : decode cX4_init 34 = .ok (.istore_n 3, 1) := fq1_62 (fl_X4_init_0 (j := 34) rfl rfl)
theorem dX4_init_35 : decode cX4_init 35 = .ok (.iconst 0, 1) := fq1_3 (fl_X4_init_0 (j := 35) rfl rfl)
theorem dX4_init_36 : decode cX4_init 36 = .ok (.istore 4, 2) := fq2_54 (fl_X4_init_0 (j := 36) rfl rfl) (fl_X4_init_0 (j := 37) rfl rfl) rfl
theorem dX4_init_38 : decode cX4_init 38 = .ok (.iload 4, 2) := fq2_21 (fl_X4_init_0 (j := 38) rfl rfl) (fl_X4_init_0 (j := 39) rfl rfl) rfl
theorem dX4_init_40 : decode cX4_init 40 = .ok (.ldc 26, 2) := fq2_18 (fl_X4_init_0 (j := 40) rfl rfl) (fl_X4_init_0 (j := 41) rfl rfl) rfl
theorem dX4_init_42 : decode cX4_init 42 = .ok (.invokevirtual 28, 3) := fq3_182 (fl_X4_init_0 (j := 42) rfl rfl) (fl_X4_init_0 (j := 43) rfl rfl) (fl_X4_init_0 (j := 44) rfl rfl) rfl
theorem dX4_init_45 : decode cX4_init 45 = .ok (.if_icmp .ge 63, 3) := fq3_162 (fl_X4_init_0 (j := 45) rfl rfl) (fl_X4_init_0 (j := 46) rfl rfl) (fl_X4_init_0 (j := 47) rfl rfl) (s2p rfl (bl rfl))
theorem dX4_init_48 : decode cX4_init 48 = .ok (.iload_n 3, 1) := fq1_29 (fl_X4_init_0 (j := 48) rfl rfl)
theorem dX4_init_49 : decode cX4_init 49 = .ok (.bipush 25, 2) := fq2_16 (fl_X4_init_0 (j := 49) rfl rfl) (fl_X4_init_0 (j := 50) rfl rfl) (s1p rfl (bl rfl))
theorem dX4_init_51 : decode cX4_init 51 = .ok (.if_icmp .ge 57, 3) := fq3_162 (fl_X4_init_0 (j := 51) rfl rfl) (fl_X4_init_0 (j := 52) rfl rfl) (fl_X4_init_0 (j := 53) rfl rfl) (s2p rfl (bl rfl))
theorem dX4_init_54 : decode cX4_init 54 = .ok (.ldc 26, 2) := fq2_18 (fl_X4_init_0 (j := 54) rfl rfl) (fl_X4_init_0 (j := 55) rfl rfl) rfl
theorem dX4_init_56 : decode cX4_init 56 = .ok (.iload 4, 2) := fq2_21 (fl_X4_init_0 (j := 56) rfl rfl) (fl_X4_init_0 (j := 57) rfl rfl) rfl
theorem dX4_init_58 : decode cX4_init 58 = .ok (.invokevirtual 34, 3) := fq3_182 (fl_X4_init_0 (j := 58) rfl rfl) (fl_X4_init_0 (j := 59) rfl rfl) (fl_X4_init_0 (j := 60) rfl rfl) rfl
theorem dX4_init_61 : decode cX4_init 61 = .ok (.bipush 32, 2) := fq2_16 (fl_X4_init_0 (j := 61) rfl rfl) (fl_X4_init_0 (j := 62) rfl rfl) (s1p rfl (bl rfl))
def fb_X4_init_1 : List UInt8 := [0x00, 0x12, 0x2a, 0xb4, 0x00, 0x0f, 0x1d, 0x1f, 0x50, 0x84, 0x03, 0x01, 0x09, 0x40, 0xa7, 0x00, 0x18, 0x1f, 0x14, 0x00, 0x26, 0x69, 0x12, 0x1a, 0x15, 0x04, 0xb6, 0x00, 0x22, 0x85, 0x61, 0x14, 0x00, 0x28, 0x65, 0x0a, 0x61, 0x40, 0x84, 0x04, 0x01, 0xa7, 0xff, 0xbd, 0xb1]
theorem fl_X4_init_1 {p j : Nat} {b : UInt8} (e : p = 64 + j) (h : fb_X4_init_1[j]? = some b) : cX4_init.data.toList[p]? = some b := fq_l (n := 64) (show (cX4_init.data.toList.drop 64).take 64 = fb_X4_init_1 by decide +kernel) e h
theorem dX4_init_63 : decode cX4_init 63 = .ok (.if_icmp .ne 18, 3) := fq3_160 (fl_X4_init_0 (j := 63) rfl rfl) (fl_X4_init_1 (j := 0) rfl rfl) (fl_X4_init_1 (j := 1) rfl rfl) (s2p rfl (bl rfl))
theorem dX4_init_66 : decode cX4_init 66 = .ok (.aload_n 0, 1) := fq1_42 (fl_X4_init_1 (j := 2) rfl rfl)
theorem dX4_init_67 : decode cX4_init 67 = .ok (.getfield 15, 3) := fq3_180 (fl_X4_init_1 (j := 3) rfl rfl) (fl_X4_init_1 (j := 4) rfl rfl) (fl_X4_init_1 (j := 5) rfl rfl) rfl
theorem dX4_init_70 : decode cX4_init 70 = .ok (.iload_n 3, 1) := fq1_29 (fl_X4_init_1 (j := 6) rfl rfl)
theorem dX4_init_71 : decode cX4_init 71 = .ok (.lload_n 1, 1) := fq1_31 (fl_X4_init_1 (j := 7) rfl rfl)
theorem dX4_init_72 : decode cX4_init 72 = .ok (.lastore, 1) := fq1_80 (fl_X4_init_1 (j := 8) rfl rfl)
theorem dX4_init_73 : decode cX4_init 73 = .ok (.iinc 3 1, 3) := fq3_132 (fl_X4_init_1 (j := 9) rfl rfl) (fl_X4_init_1 (j := 10) rfl rfl) (fl_X4_init_1 (j := 11) rfl rfl) rfl (s1p rfl (bl rfl))
theorem dX4_init_76 : decode cX4_init 76 = .ok (.lconst 0, 1) := fq1_9 (fl_X4_init_1 (j := 12) rfl rfl)
theorem dX4_init_77 : decode cX4_init 77 = .ok (.lstore_n 1, 1) := fq1_64 (fl_X4_init_1 (j := 13) rfl rfl)
theorem dX4_init_78 : decode cX4_init 78 = .ok (.goto 24, 3) := fq3_167 (fl_X4_init_1 (j := 14) rfl rfl) (fl_X4_init_1 (j := 15) rfl rfl) (fl_X4_init_1 (j := 16) rfl rfl) (s2p rfl (bl rfl))
theorem dX4_init_81 : decode cX4_init 81 = .ok (.lload_n 1, 1) := fq1_31 (fl_X4_init_1 (j := 17) rfl rfl)
theorem dX4_init_82 : decode cX4_init 82 = .ok (.ldc2_w 38, 3) := fq3_20 (fl_X4_init_1 (j := 18) rfl rfl) (fl_X4_init_1 (j := 19) rfl rfl) (fl_X4_init_1 (j := 20) rfl rfl) rfl
theorem dX4_init_85 : decode cX4_init 85 = .ok (.lmul, 1) := fq1_105 (fl_X4_init_1 (j := 21) rfl rfl)
theorem dX4_init_86 : decode cX4_init 86 = .ok (.ldc 26, 2) := fq2_18 (fl_X4_init_1 (j := 22) rfl rfl) (fl_X4_init_1 (j := 23) rfl rfl) rfl
theorem dX4_init_88 : decode cX4_init 88 = .ok (.iload 4, 2) := fq2_21 (fl_X4_init_1 (j := 24) rfl rfl) (fl_X4_init_1 (j := 25) rfl rfl) rfl
theorem dX4_init_90 : decode cX4_init 90 = .ok (.invokevirtual 34, 3) := fq3_182 (fl_X4_init_1 (j := 26) rfl rfl) (fl_X4_init_1 (j := 27) rfl rfl) (fl_X4_init_1 (j := 28) rfl rfl) rfl
theorem dX4_init_93 : decode cX4_init 93 = .ok (.i2l, 1) := fq1_133 (fl_X4_init_1 (j := 29) rfl rfl)
theorem dX4_init_94 : decode cX4_init 94 = .ok (.ladd, 1) := fq1_97 (fl_X4_init_1 (j := 30) rfl rfl)
theorem dX4_init_95 : decode cX4_init 95 = .ok (.ldc2_w 40, 3) := fq3_20 (fl_X4_init_1 (j := 31) rfl rfl) (fl_X4_init_1 (j := 32) rfl rfl) (fl_X4_init_1 (j := 33) rfl rfl) rfl
theorem dX4_init_98 : decode cX4_init 98 = .ok (.lsub, 1) := fq1_101 (fl_X4_init_1 (j := 34) rfl rfl)
theorem dX4_init_99 : decode cX4_init 99 = .ok (.lconst 1, 1) := fq1_10 (fl_X4_init_1 (j := 35) rfl rfl)
theorem dX4_init_100 : decode cX4_init 100 = .ok (.ladd, 1) := fq1_97 (fl_X4_init_1 (j := 36) rfl rfl)
theorem dX4_init_101 : decode cX4_init 101 = .ok (.lstore_n 1, 1) := fq1_64 (fl_X4_init_1 (j := 37) rfl rfl)
theorem dX4_init_102 : decode cX4_init 102 = .ok (.iinc 4 1, 3) := fq3_132 (fl_X4_init_1 (j := 38) rfl rfl) (fl_X4_init_1 (j := 39) rfl rfl) (fl_X4_init_1 (j := 40) rfl rfl) rfl (s1p rfl (bl rfl))
theorem dX4_init_105 : decode cX4_init 105 = .ok (.goto (-67), 3) := fq3_167 (fl_X4_init_1 (j := 41) rfl rfl) (fl_X4_init_1 (j := 42) rfl rfl) (fl_X4_init_1 (j := 43) rfl rfl) (by decide)
theorem dX4_init_108 : decode cX4_init 108 = .ok (.return_, 1) := fq1_177 (fl_X4_init_1 (j := 44) rfl rfl)
def fb_X5_init_0 : List UInt8 := [0x2a, 0xb7, 0x00, 0x03, 0x2a, 0x10, 0x06, 0xbc, 0x0b, 0xb5, 0x00, 0x09, 0x2a, 0x10, 0x24, 0xbc, 0x0a, 0xb5, 0x00, 0x0f, 0x2a, 0x10, 0x20, 0xbc, 0x0a, 0xb5, 0x00, 0x13, 0xb1]
theorem fl_X5_init_0 {p j : Nat} {b : UInt8} (e : p = 0 + j) (h : fb_X5_init_0[j]? = some b) : cX5_init.data.toList[p]? = some b := fq_l (n := 64) (show (cX5_init.data.toList.drop 0).take 64 = fb_X5_init_0 by decide +kernel) e h
theorem dX5_init_0 : decode cX5_init 0 = .ok (.aload_n 0, 1) := fq1_42 (fl_X5_init_0 (j := 0) rfl rfl)
theorem dX5_init_1 : decode cX5_init 1 = .ok (.invokespecial 3, 3) := fq3_183 (fl_X5_init_0 (j := 1) rfl rfl) (fl_X5_init_0 (j := 2) rfl rfl) (fl_X5_init_0 (j := 3) rfl rfl) rfl
theorem dX5_init_4 : decode cX5_init 4 = .ok (.aload_n 0, 1) := fq1_42 (fl_X5_init_0 (j := 4) rfl rfl)
theorem dX5_init_5 : decode cX5_init 5 = .ok (.bipush 6, 2) := fq2_16 (fl_X5_init_0 (j := 5) rfl rfl) (fl_X5_init_0 (j := 6) rfl rfl) (s1p rfl (bl rfl))
theorem dX5_init_7 : decode cX5_init 7 = .ok (.newarray .long, 2) := by decide +kernel
theorem dX5_init_9 : decode cX5_init 9 = .ok (.putfield 9, 3) := fq3_181 (fl_X5_init_0 (j := 9) rfl rfl) (fl_X5_init_0 (j := 10) rfl rfl) (fl_X5_init_0 (j := 11) rfl rfl) rfl
theorem dX5_init_12 : decode cX5_init 12 = .ok (.aload_n 0, 1) := fq1_42 (fl_X5_init_0 (j := 12) rfl rfl)
theorem dX5_init_13 : decode cX5_init 13 = .ok (.bipush 36, 2) := fq2_16 (fl_X5_init_0 (j := 13) rfl rfl) (fl_X5_init_0 (j := 14) rfl rfl) (s1p rfl (bl rfl))
theorem dX5_init_15 : decode cX5_init 15 = .ok (.newarray .int, 2) := by decide +kernel
theorem dX5_init_17 : decode cX5_init 17 = .ok (.putfield 15, 3) := fq3_181 (fl_X5_init_0 (j := 17) rfl rfl) (fl_X5_init_0 (j := 18) rfl rfl) (fl_X5_init_0 (j := 19) rfl rfl) rfl
theorem dX5_init_20 : decode cX5_init 20 = .ok (.aload_n 0, 1) := fq1_42 (fl_X5_init_0 (j := 20) rfl rfl)
theorem dX5_init_21 : decode cX5_init 21 = .ok (.bipush 32, 2) := fq2_16 (fl_X5_init_0 (j := 21) rfl rfl) (fl_X5_init_0 (j := 22) rfl rfl) (s1p rfl (bl rfl))
theorem dX5_init_23 : decode cX5_init 23 = .ok (.newarray .int, 2) := by decide +kernel
theorem dX5_init_25 : decode cX5_init 25 = .ok (.putfield 19, 3) := fq3_181 (fl_X5_init_0 (j := 25) rfl rfl) (fl_X5_init_0 (j := 26) rfl rfl) (fl_X5_init_0 (j := 27) rfl rfl) rfl
theorem dX5_init_28 : decode cX5_init 28 = .ok (.return_, 1) := fq1_177 (fl_X5_init_0 (j := 28) rfl rfl)
def fb_X6_init_0 : List UInt8 := [0x2a, 0xb7, 0x00, 0x03, 0x2a, 0x2b, 0xb5, 0x00, 0x09, 0xb1]
theorem fl_X6_init_0 {p j : Nat} {b : UInt8} (e : p = 0 + j) (h : fb_X6_init_0[j]? = some b) : cX6_init.data.toList[p]? = some b := fq_l (n := 64) (show (cX6_init.data.toList.drop 0).take 64 = fb_X6_init_0 by decide +kernel) e h
theorem dX6_init_0 : decode cX6_init 0 = .ok (.aload_n 0, 1) := fq1_42 (fl_X6_init_0 (j := 0) rfl rfl)
theorem dX6_init_1 : decode cX6_init 1 = .ok (.invokespecial 3, 3) := fq3_183 (fl_X6_init_0 (j := 1) rfl rfl) (fl_X6_init_0 (j := 2) rfl rfl) (fl_X6_init_0 (j := 3) rfl rfl) rfl
theorem dX6_init_4 : decode cX6_init 4 = .ok (.aload_n 0, 1) := fq1_42 (fl_X6_init_0 (j := 4) rfl rfl)
theorem dX6_init_5 : decode cX6_init 5 = .ok (.aload_n 1, 1) := fq1_43 (fl_X6_init_0 (j := 5) rfl rfl)
theorem dX6_init_6 : decode cX6_init 6 = .ok (.putfield 9, 3) := fq3_181 (fl_X6_init_0 (j := 6) rfl rfl) (fl_X6_init_0 (j := 7) rfl rfl) (fl_X6_init_0 (j := 8) rfl rfl) rfl
theorem dX6_init_9 : decode cX6_init 9 = .ok (.return_, 1) := fq1_177 (fl_X6_init_0 (j := 9) rfl rfl)
def fb_X7_init_0 : List UInt8 := [0x2a, 0xb7, 0x00, 0x03, 0x2a, 0x10, 0x3c, 0xbc, 0x0b, 0xb5, 0x00, 0x09, 0x2a, 0x02, 0xb5, 0x00, 0x0f, 0xb1]
theorem fl_X7_init_0 {p j : Nat} {b : UInt8} (e : p = 0 + j) (h : fb_X7_init_0[j]? = some b) : cX7_init.data.toList[p]? = some b := fq_l (n := 64) (show (cX7_init.data.toList.drop 0).take 64 = fb_X7_init_0 by decide +kernel) e h
theorem dX7_init_0 : decode cX7_init 0 = .ok (.aload_n 0, 1) := fq1_42 (fl_X7_init_0 (j := 0) rfl rfl)
theorem dX7_init_1 : decode cX7_init 1 = .ok (.invokespecial 3, 3) := fq3_183 (fl_X7_init_0 (j := 1) rfl rfl) (fl_X7_init_0 (j := 2) rfl rfl) (fl_X7_init_0 (j := 3) rfl rfl) rfl
theorem dX7_init_4 : decode cX7_init 4 = .ok (.aload_n 0, 1) := fq1_42 (fl_X7_init_0 (j := 4) rfl rfl)
theorem dX7_init_5 : decode cX7_init 5 = .ok (.bipush 60, 2) := fq2_16 (fl_X7_init_0 (j := 5) rfl rfl) (fl_X7_init_0 (j := 6) rfl rfl) (s1p rfl (bl rfl))
theorem dX7_init_7 : decode cX7_init 7 = .ok (.newarray .long, 2) := by decide +kernel
theorem dX7_init_9 : decode cX7_init 9 = .ok (.putfield 9, 3) := fq3_181 (fl_X7_init_0 (j := 9) rfl rfl) (fl_X7_init_0 (j := 10) rfl rfl) (fl_X7_init_0 (j := 11) rfl rfl) rfl
theorem dX7_init_12 : decode cX7_init 12 = .ok (.aload_n 0, 1) := fq1_42 (fl_X7_init_0 (j := 12) rfl rfl)
theorem dX7_init_13 : decode cX7_init 13 = .ok (.iconst (-1), 1) := fq1_2 (fl_X7_init_0 (j := 13) rfl rfl)
theorem dX7_init_14 : decode cX7_init 14 = .ok (.putfield 15, 3) := fq3_181 (fl_X7_init_0 (j := 14) rfl rfl) (fl_X7_init_0 (j := 15) rfl rfl) (fl_X7_init_0 (j := 16) rfl rfl) rfl
theorem dX7_init_17 : decode cX7_init 17 = .ok (.return_, 1) := fq1_177 (fl_X7_init_0 (j := 17) rfl rfl)
def fb_X8_init_0 : List UInt8 := [0x2a, 0xb7, 0x00, 0x03, 0x2a, 0xbb, 0x00, 0x09, 0x59, 0xb7, 0x00, 0x0b, 0xb5, 0x00, 0x0c, 0x2a, 0xbb, 0x00, 0x12, 0x59, 0xb7, 0x00, 0x14, 0xb5, 0x00, 0x15, 0x2a, 0xbb, 0x00, 0x19, 0x59, 0xb7, 0x00, 0x1b, 0xb5, 0x00, 0x1c, 0xb1]
theorem fl_X8_init_0 {p j : Nat} {b : UInt8} (e : p = 0 + j) (h : fb_X8_init_0[j]? = some b) : cX8_init.data.toList[p]? = some b := fq_l (n := 64) (show (cX8_init.data.toList.drop 0).take 64 = fb_X8_init_0 by decide +kernel) e h
theorem dX8_init_0 : decode cX8_init 0 = .ok (.aload_n 0, 1) := fq1_42 (fl_X8_init_0 (j := 0) rfl rfl)
theorem dX8_init_1 : decode cX8_init 1 = .ok (.invokespecial 3, 3) := fq3_183 (fl_X8_init_0 (j := 1) rfl rfl) (fl_X8_init_0 (j := 2) rfl rfl) (fl_X8_init_0 (j := 3) rfl rfl) rfl
theorem dX8_init_4 : decode cX8_init 4 = .ok (.aload_n 0, 1) := fq1_42 (fl_X8_init_0 (j := 4) rfl rfl)
theorem dX8_init_5 : decode cX8_init 5 = .ok (.new 9, 3) := fq3_187 (fl_X8_init_0 (j := 5) rfl rfl) (fl_X8_init_0 (j := 6) rfl rfl) (fl_X8_init_0 (j := 7) rfl rfl) rfl
theorem dX8_init_8 : decode cX8_init 8 = .ok (.dup, 1) := fq1_89 (fl_X8_init_0 (j := 8) rfl rfl)
theorem dX8_init_9 : decode cX8_init 9 = .ok (.invokespecial 11, 3) := fq3_183 (fl_X8_init_0 (j := 9) rfl rfl) (fl_X8_init_0 (j := 10) rfl rfl) (fl_X8_init_0 (j := 11) rfl rfl) rfl
theorem dX8_init_12 : decode cX8_init 12 = .ok (.putfield 12, 3) := fq3_181 (fl_X8_init_0 (j := 12) rfl rfl) (fl_X8_init_0 (j := 13) rfl rfl) (fl_X8_init_0 (j := 14) rfl rfl) rfl
theorem dX8_init_15 : decode cX8_init 15 = .ok (.aload_n 0, 1) := fq1_42 (fl_X8_init_0 (j := 15) rfl rfl)
theorem dX8_init_16 : decode cX8_init 16 = .ok (.new 18, 3) := fq3_187 (fl_X8_init_0 (j := 16) rfl rfl) (fl_X8_init_0 (j := 17) rfl rfl) (fl_X8_init_0 (j := 18) rfl rfl) rfl
theorem dX8_init_19 : decode cX8_init 19 = .ok (.dup, 1) := fq1_89 (fl_X8_init_0 (j := 19) rfl rfl)
theorem dX8_init_20 : decode cX8_init 20 = .ok (.invokespecial 20, 3) := fq3_183 (fl_X8_init_0 (j := 20) rfl rfl) (fl_X8_init_0 (j := 21) rfl rfl) (fl_X8_init_0 (j := 22) rfl rfl) rfl
theorem dX8_init_23 : decode cX8_init 23 = .ok (.putfield 21, 3) := fq3_181 (fl_X8_init_0 (j := 23) rfl rfl) (fl_X8_init_0 (j := 24) rfl rfl) (fl_X8_init_0 (j := 25) rfl rfl) rfl
theorem dX8_init_26 : decode cX8_init 26 = .ok (.aload_n 0, 1) := fq1_42 (fl_X8_init_0 (j := 26) rfl rfl)
theorem dX8_init_27 : decode cX8_init 27 = .ok (.new 25, 3) := fq3_187 (fl_X8_init_0 (j := 27) rfl rfl) (fl_X8_init_0 (j := 28) rfl rfl) (fl_X8_init_0 (j := 29) rfl rfl) rfl
theorem dX8_init_30 : decode cX8_init 30 = .ok (.dup, 1) := fq1_89 (fl_X8_init_0 (j := 30) rfl rfl)
theorem dX8_init_31 : decode cX8_init 31 = .ok (.invokespecial 27, 3) := fq3_183 (fl_X8_init_0 (j := 31) rfl rfl) (fl_X8_init_0 (j := 32) rfl rfl) (fl_X8_init_0 (j := 33) rfl rfl) rfl
theorem dX8_init_34 : decode cX8_init 34 = .ok (.putfield 28, 3) := fq3_181 (fl_X8_init_0 (j := 34) rfl rfl) (fl_X8_init_0 (j := 35) rfl rfl) (fl_X8_init_0 (j := 36) rfl rfl) rfl
theorem dX8_init_37 : decode cX8_init 37 = .ok (.return_, 1) := fq1_177 (fl_X8_init_0 (j := 37) rfl rfl)
def fb_X9_init_0 : List UInt8 := [0x2a, 0xb7, 0x00, 0x03, 0x2a, 0x10, 0x3c, 0xbc, 0x0a, 0xb5, 0x00, 0x0b, 0x2a, 0x10, 0x3c, 0xbc, 0x0a, 0xb5, 0x00, 0x0f, 0x2a, 0x10, 0x3c, 0xbc, 0x0a, 0xb5, 0x00, 0x12, 0x2a, 0x10, 0x3c, 0xbc, 0x0a, 0xb5, 0x00, 0x15, 0x2a, 0x10, 0x3c, 0xbc, 0x0a, 0xb5, 0x00, 0x18, 0xb1]
theorem fl_X9_init_0 {p j : Nat} {b : UInt8} (e : p = 0 + j) (h : fb_X9_init_0[j]? = some b) : cX9_init.data.toList[p]? = some b := fq_l (n := 64) (show (cX9_init.data.toList.drop 0).take 64 = fb_X9_init_0 by decide +kernel) e h
theorem dX9_init_0 : decode cX9_init 0 = .ok (.aload_n 0, 1) := fq1_42 (fl_X9_init_0 (j := 0) rfl rfl)
theorem dX9_init_1 : decode cX9_init 1 = .ok (.invokespecial 3, 3) := fq3_183 (fl_X9_init_0 (j := 1) rfl rfl) (fl_X9_init_0 (j := 2) rfl rfl) (fl_X9_init_0 (j := 3) rfl rfl) rfl
theorem dX9_init_4 : decode cX9_init 4 = .ok (.aload_n 0, 1) := fq1_42 (fl_X9_init_0 (j := 4) rfl rfl)
theorem dX9_init_5 : decode cX9_init 5 = .ok (.bipush 60, 2) := fq2_16 (fl_X9_init_0 (j := 5) rfl rfl) (fl_X9_init_0 (j := 6) rfl rfl) (s1p rfl (bl rfl))
theorem dX9_init_7 : decode cX9_init 7 = .ok (.newarray .int, 2) := by decide +kernel
theorem dX9_init_9 : decode cX9_init 9 = .ok (.putfield 11, 3) := fq3_181 (fl_X9_init_0 (j := 9) rfl rfl) (fl_X9_init_0 (j := 10) rfl rfl) (fl_X9_init_0 (j := 11) rfl rfl) rfl
theorem dX9_init_12 : decode cX9_init 12 = .ok (.aload_n 0, 1) := fq1_42 (fl_X9_init_0 (j := 12) rfl rfl)
theorem dX9_init_13 : decode cX9_init 13 = .ok (.bipush 60, 2) := fq2_16 (fl_X9_init_0 (j := 13) rfl rfl) (fl_X9_init_0 (j := 14) rfl rfl) (s1p rfl (bl rfl))
theorem dX9_init_15 : decode cX9_init 15 = .ok (.newarray .int, 2) := by decide +kernel
theorem dX9_init_17 : decode cX9_init 17 = .ok (.putfield 15, 3) := fq3_181 (fl_X9_init_0 (j := 17) rfl rfl) (fl_X9_init_0 (j := 18) rfl rfl) (fl_X9_init_0 (j := 19) rfl rfl) rfl
theorem dX9_init_20 : decode cX9_init 20 = .ok (.aload_n 0, 1) := fq1_42 (fl_X9_init_0 (j := 20) rfl rfl)
theorem dX9_init_21 : decode cX9_init 21 = .ok (.bipush 60, 2) := fq2_16 (fl_X9_init_0 (j := 21) rfl rfl) (fl_X9_init_0 (j := 22) rfl rfl) (s1p rfl (bl rfl))
theorem dX9_init_23 : decode cX9_init 23 = .ok (.newarray .int, 2) := by decide +kernel
theorem dX9_init_25 : decode cX9_init 25 = .ok (.putfield 18, 3) := fq3_181 (fl_X9_init_0 (j := 25) rfl rfl) (fl_X9_init_0 (j := 26) rfl rfl) (fl_X9_init_0 (j := 27) rfl rfl) rfl
theorem dX9_init_28 : decode cX9_init 28 = .ok (.aload_n 0, 1) := fq1_42 (fl_X9_init_0 (j := 28) rfl rfl)
theorem dX9_init_29 : decode cX9_init 29 = .ok (.bipush 60, 2) := fq2_16 (fl_X9_init_0 (j := 29) rfl rfl) (fl_X9_init_0 (j := 30) rfl rfl) (s1p rfl (bl rfl))
theorem dX9_init_31 : decode cX9_init 31 = .ok (.newarray .int, 2) := by decide +kernel
theorem dX9_init_33 : decode cX9_init 33 = .ok (.putfield 21, 3) := fq3_181 (fl_X9_init_0 (j := 33) rfl rfl) (fl_X9_init_0 (j := 34) rfl rfl) (fl_X9_init_0 (j := 35) rfl rfl) rfl
theorem dX9_init_36 : decode cX9_init 36 = .ok (.aload_n 0, 1) := fq1_42 (fl_X9_init_0 (j := 36) rfl rfl)
theorem dX9_init_37 : decode cX9_init 37 = .ok (.bipush 60, 2) := fq2_16 (fl_X9_init_0 (j := 37) rfl rfl) (fl_X9_init_0 (j := 38) rfl rfl) (s1p rfl (bl rfl))
theorem dX9_init_39 : decode cX9_init 39 = .ok (.newarray .int, 2) := by decide +kernel
theorem dX9_init_41 : decode cX9_init 41 = .ok (.putfield 24, 3) := fq3_181 (fl_X9_init_0 (j := 41) rfl rfl) (fl_X9_init_0 (j := 42) rfl rfl) (fl_X9_init_0 (j := 43) rfl rfl) rfl
theorem dX9_init_44 : decode cX9_init 44 = .ok (.return_, 1) := fq1_177 (fl_X9_init_0 (j := 44) rfl rfl)
end

section
def kwT : String := "rock far round at rank price swing wears ice from to law first last sent week wear order chance when rules in loop end stop "
def PS (sa sv : Nat) (sf : Nat → Int32) (D : va_G) (k : Nat → ClassId) (av : List Value) (pre : va_W) (sz : Nat) : Array Value → State → Prop := va_Pc av (fun U => U.heap.size = sz ∧ va_P D vwCl pre U.heap ∧ KK D k U ∧ va_D (fun _ => True) pre ∧ SX sa sv sf (va_A pre sz) U U.heap ∧ vk_R RX4 26 kwT sa U)
theorem PS.blind {sa sv : Nat} {sf : Nat → Int32} {D : va_G} {k : Nat → ClassId} {av : List Value} {pre : va_W} {sz : Nat} : FrameBlind (PS sa sv sf D k av pre sz) := fun _ U g mk q => ⟨q.1, q.2.1, q.2.2.1, q.2.2.2.1.call, q.2.2.2.2.1, SX.moved (u := U) (U := U.calling g mk _) (Vm.Alike.refl U.vm) q.2.2.2.2.2.1, vk_R.same (u := U) rfl q.2.2.2.2.2.2⟩
def WDS {σ : Type} (sa sv : Nat) (sf : Nat → Int32) (l : Launch) (y : MethodName) (cc : ByteArray) (maxL : Nat) (ret : Option FieldType) (j mc ms : Nat) (D : va_G) (k : Nat → ClassId) (av : List Value) (pre : va_W) (val : σ → Option Value) (φ : σ → Prop) (post : σ → va_W) : Prop := ∀ sz : Nat, Met l y (Cond.code y cc maxL ret :: gw) (rj j mc ms) (PS sa sv sf D k av pre sz) (QW val φ post D (va_A pre sz)) mc ms (va_A pre sz)
theorem MWS {σ : Type} {sa sv : Nat} {sf : Nat → Int32} {l : Launch} {y : MethodName} {cc : ByteArray} {maxL : Nat} {ret : Option FieldType} {j mc ms : Nat} {D : va_G} {k : Nat → ClassId} {av : List Value} {pre : va_W} {val : σ → Option Value} {φ : σ → Prop} {post : σ → va_W} (hy : plainName y.cls = true) (hlen : (lg_sl av).length ≤ maxL)
    (body : ∀ (p : Program) (e : Env) (s : State) (m : MethodId) (below : List Frame) (meth : Method) (c : Code) (ls : Array Slot) (A : Nat → Prop), p.tables.exec = Jvm.exec → c.code = cc → c.maxLocals = maxL → meth.sig.returnType = ret → meth.locks = false → meth.name = y.name → (∀ w ∈ gw, w.before av.toArray s = true) → s.vm.findClass y.cls = some m.cls → KK D k s → va_P D vwCl pre s.heap → va_D A pre → va_S A s.heap s.heap [] → (∀ q : Nat, s.heap.size ≤ q → A q) → SX sa sv sf A s s.heap → vk_R RX4 26 kwT sa s → lv_has ls maxL (lv_args 0 av) → W p l e (rj j mc ms) s m av.toArray below meth c s.heap [] 0 0 (MQ below (QW val φ post D A) av.toArray s mc ms A) (F0 m 0 ls [])) : WDS sa sv sf l y cc maxL ret j mc ms D k av pre val φ post := by
  intro sz
  refine Met.ofW (cc := cc) (maxL := maxL) (ret := ret) hy rfl ?_
  intro p e s m args below meth c s₁ B hml hv
  obtain ⟨rfl, hsz, hP, hK, hD0, hSX, hRR⟩ := hv
  subst hsz
  have hl := lv_entry av (n := maxL) hlen
  rw [lg_entry_eq]
  generalize (lg_sl av ++ List.replicate (maxL - (lg_sl av).length) Slot.unset).toArray = ls at hl ⊢
  have hts := atoms_spec (ws := Cond.code y cc maxL ret :: gw) B.pre
  exact body p e s m below meth c ls (va_A pre s.heap.size) B.exec B.bytes hml B.returns B.notSynchronized (name_of_methodNamed B.named B.method).1 (fun w hw => hts w (List.mem_cons_of_mem _ hw)) (findClass_of_methodNamed B.named) hK hP (hD0.self (sz := s.heap.size)) va_S.rf (fun q h => Or.inr h) hSX hRR hl
section CS
variable {p : Program} {l : Launch} {e : Env} {R : Room} {s : State} {m : MethodId} {args : Array Value} {below : List Frame} {meth : Method} {c : Code} {H : Heap} {locs : List Loc} {cells slots : Nat} {Q : State → Prop} {D : va_G} {k : Nat → ClassId} {A : Nat → Prop}
variable {y : MethodName} {bytes cc : ByteArray} {maxL nL n index j mc ms pc b : Nat} {own : String} {As rest st : List Value} {ls : Array Slot} {wc wr ws : va_W} {sa sv : Nat} {sf : Nat → Int32}
theorem CWIS {σ : Type} {val : σ → Option Value} {φ : σ → Prop} {post : σ → va_W} (hx : p.tables.exec = Jvm.exec) (hb : c.code = cc) (hml : c.maxLocals = nL) (hown : s.vm.findClass own = some m.cls) (hts : ∀ w ∈ gw, w.before args s = true) (hK : KK D k s) (hP : va_P D vwCl ws H) (hD : va_D A ws) (hS : va_S A s.heap H locs) (hA : ∀ q : Nat, s.heap.size ≤ q → A q) (hSX : SX sa sv sf A s s.heap) (hRR : vk_R RX4 26 kwT sa s) (hM : WDS sa sv sf l y bytes maxL none j mc ms D k (.ref b :: As) wc val φ post) (cI : CIi y bytes maxL n) (hlink : Cond.methodLink own index y ∈ gw) (hR : j + 1 ≤ R.frames ∧ 8 + (maxL + 11) + 40 * j ≤ R.locals) (hce : cells + mc ≤ R.cells ∧ slots + ms ≤ R.slots)
    (isC isR : List Nat) (hC : isC.map (fun i => ws[i]?) = wc.map some) (hC2 : isC.filterMap (fun i => ws[i]?) = wc) (hRr : isR.map (fun i => ws[i]?) = wr.map some) (hnC : va_nd isC = true) (hnR : va_nd isR = true) (hdis : ∀ i ∈ isR, i ∉ isC)
    (hn : As.length = n) (hsz : ls.size = nL) (hst : st = As.reverse ++ .ref b :: rest) (hW : (rest.map fun v => v.category).sum ≤ 8) (hdg : decode cc pc = .ok (.invokespecial index, 3))
    (kk : ∀ (u : σ) (H1 : Heap) (locs1 : List Loc), φ u → va_P D vwCl (wr ++ post u) H1 → va_D A (wr ++ post u) → va_S A s.heap H1 locs1 → W p l e R s m args below meth c H1 locs1 (cells + mc) (slots + ms) Q (F0 m (pc + 3) ls ((val u).toList ++ rest))) : W p l e R s m args below meth c H locs cells slots Q (F0 m pc ls st) := by
  have hPc := hP.sub isC hC2
  have hDc := hD.sub isC hnC hC
  have hFc := va_free hD hS hA isC hC
  have hSc : SX sa sv sf (va_A wc H.size) s H := (hSX.kept hS.2.1).narrow hFc
  refine callW (va_runI (As := As) (rest := rest) (b := b) ⟨hx, hb, hml, hown, hts⟩ (hM H.size) (cwIx hts cI hlink hR) ⟨PS.blind, fun U hU hW => ⟨rfl, by rw [hU], by rw [hU]; exact hPc, hK.warm hW, hDc.weaken (fun _ _ _ _ => trivial), by rw [hU]; exact hSc.moved hW.alike, vk_R.warm hW hRR⟩⟩ rfl hn hsz hst (lv_room hW) hdg hce) hS (fun q _ h => hFc q h) hFc (fun u H1 locs1 hφ hP1 hD1 hk1 hS1 => ?_)
  obtain ⟨g1, g2⟩ := va_join hP hD isC isR hC hRr hnR hdis hk1 hFc hP1 hD1
  exact kk u H1 locs1 hφ g1 g2 hS1
end CS
theorem rd_lt {m : Nat} (h : ¬ 25 ≤ nI m) (hm : m ≤ 25) : m < 25 := by
  rcases Nat.lt_or_ge m 25 with q | q
  · exact q
  · exact absurd (nI_le (a := 25) (b := m) q (by omega)) h
theorem rd_in {m : Nat} (h : ¬ 25 ≤ nI m) (hm : m ≤ 25) : vp_in (nI m) 25 := vp_in_nI (rd_lt h hm) (by decide)
theorem refn {D : va_G} {cl : List vw_C} {A : Nat → Prop} {ws : va_W} {H : Heap} {i a n : Nat} {cA : ClassId} {f g : Nat → Option Nat} (hP : va_P D cl ws H) (hD : va_D A ws) (h : ws[i]? = some (a, .inl (cA, n, .inr (.inr (.inr (.inr f)))))) (hfg : ∀ j, j < n → f j = g j) : va_P D cl (ws.set i (a, .inl (cA, n, .inr (.inr (.inr (.inr g)))))) H ∧ va_D A (ws.set i (a, .inl (cA, n, .inr (.inr (.inr (.inr g)))))) := by
  refine ⟨hP.set hD h ?_ (fun q _ => rfl), hD.set h⟩
  have h1 : H[a]? = some (vp_cell cA (n, .inr (.inr (.inr (.inr f))))) := hP i _ h
  show H[a]? = some (vp_cell cA (n, .inr (.inr (.inr (.inr g)))))
  rw [h1]
  congr 1
  show arrV cA n (fun j => va_rf (f j)) = arrV cA n (fun j => va_rf (g j))
  unfold arrV
  congr 1
  congr 1
  funext j
  show va_rf (f j.val) = va_rf (g j.val)
  rw [hfg j.val j.isLt]
theorem refi {D : va_G} {cl : List vw_C} {A : Nat → Prop} {ws : va_W} {H : Heap} {i a n : Nat} {cA : ClassId} {f g : Nat → Int32} (hP : va_P D cl ws H) (hD : va_D A ws) (h : ws[i]? = some (a, .inl (cA, n, .inl f))) (hfg : ∀ j, j < n → f j = g j) : va_P D cl (ws.set i (a, .inl (cA, n, .inl g))) H ∧ va_D A (ws.set i (a, .inl (cA, n, .inl g))) := by
  refine ⟨hP.set hD h ?_ (fun q _ => rfl), hD.set h⟩
  have h1 : H[a]? = some (vp_cell cA (n, .inl f)) := hP i _ h
  show H[a]? = some (vp_cell cA (n, .inl g))
  rw [h1]
  congr 1
  show arrV cA n (fun j => .int (f j)) = arrV cA n (fun j => .int (g j))
  unfold arrV
  congr 1
  congr 1
  funext j
  show Value.int (f j.val) = Value.int (g j.val)
  rw [hfg j.val j.isLt]
set_option maxHeartbeats 4000000 in
set_option maxRecDepth 100000 in
theorem n_Sky (l : Launch) (D : va_G) (k : Nat → ClassId) (h : Nat) : WD (σ := ((Nat → Nat) × (Nat → Int64))) l yX5_init cX5_init 1 none 1 3 74 D k [.ref h] [(h, .inr (5, [.null, .null, .null, .int 0, .int 0, .int 0, .int 0]))] (fun _ => none) (fun _ => True) (fun u => [(h, .inr (5, [.ref (u.1 0), .ref (u.1 1), .ref (u.1 2), .int 0, .int 0, .int 0, .int 0])), ((u.1 0), .inl (k 2, 6, .inr (.inl (fun _ => 0)))), ((u.1 1), .inl (k 1, 36, .inl (fun _ => 0))), ((u.1 2), .inl (k 1, 32, .inl (fun _ => 0)))]) := by
  refine MW (by decide) (Nat.le_of_ble_eq_true rfl) (fun p e s m below meth c ls A hx hb hml hr hlocks hin hts hown hKK hP hD hS hA hl => ?_)
  have hK := hKK.1
  have hl : lv_has ls 1 [(0, .ref h)] := hl
  refine lv_aload_n hx hb dX5_init_0 rfl (lv_at hl 0 rfl) ?_
  refine W.objInit hx hb hown (hts _ qm_X5_3) (hts _ qi_objectInit) (hts _ qc_objectInit) rfl (by rw [hml]; exact hl.1) rfl dX5_init_1 (Nat.le_of_ble_eq_true rfl) (Nat.le_of_ble_eq_true rfl) ?_
  refine W.eq (g2 := F0 m 4 ls []) rfl ?_
  refine lv_aload_n hx hb dX5_init_4 rfl (lv_at hl 0 rfl) ?_
  refine lv_bipush (v := 6) hx hb dX5_init_5 (by decide) ?_
  refine nwa (atype := .long) (t := 2) (a0 := (6, .inr (.inl (fun _ => 0)))) hx hb (hts _ qa_long) rfl rfl hKK hP hD hS hA (fun _ => rfl) (by decide) (by decide +kernel) (by decide) (Nat.le_of_ble_eq_true rfl) (Nat.le_of_ble_eq_true rfl) dX5_init_7 (fun a_1 H hP hD hS => ?_)
  refine W.widen (k := 1) (n := 6) (by decide) (by decide) ?_
  refine va_putF (D := D) (ci := 5) (v := .ref a_1) (ty := (tyX5 0)) (C := RX5) (T := TX5) (N := 7) hx hb hts iX5 tyX5 tyX5_ok nmX5 hown hK hP hD hS 0 rfl rfl 0 (by decide) (hts _ qf_X5_9) (fun _ h => h) rfl hin rfl (by decide +kernel) rfl rfl (Nat.le_of_ble_eq_true rfl) dX5_init_9 (fun H locs hP hD hS => ?_)
  refine lv_aload_n hx hb dX5_init_12 rfl (lv_at hl 0 rfl) ?_
  refine lv_bipush (v := 36) hx hb dX5_init_13 (by decide) ?_
  refine nwa (atype := .int) (t := 1) (a0 := (36, .inl (fun _ => 0))) hx hb (hts _ qa_int) rfl rfl hKK hP hD hS hA (fun _ => rfl) (by decide) (by decide +kernel) (by decide) (Nat.le_of_ble_eq_true rfl) (Nat.le_of_ble_eq_true rfl) dX5_init_15 (fun a_2 H hP hD hS => ?_)
  refine W.widen (k := 2) (n := 42) (by decide) (by decide) ?_
  refine va_putF (D := D) (ci := 5) (v := .ref a_2) (ty := (tyX5 1)) (C := RX5) (T := TX5) (N := 7) hx hb hts iX5 tyX5 tyX5_ok nmX5 hown hK hP hD hS 0 rfl rfl 1 (by decide) (hts _ qf_X5_15) (fun _ h => h) rfl hin rfl (by decide +kernel) rfl rfl (Nat.le_of_ble_eq_true rfl) dX5_init_17 (fun H locs hP hD hS => ?_)
  refine lv_aload_n hx hb dX5_init_20 rfl (lv_at hl 0 rfl) ?_
  refine lv_bipush (v := 32) hx hb dX5_init_21 (by decide) ?_
  refine nwa (atype := .int) (t := 1) (a0 := (32, .inl (fun _ => 0))) hx hb (hts _ qa_int) rfl rfl hKK hP hD hS hA (fun _ => rfl) (by decide) (by decide +kernel) (by decide) (Nat.le_of_ble_eq_true rfl) (Nat.le_of_ble_eq_true rfl) dX5_init_23 (fun a_3 H hP hD hS => ?_)
  refine W.widen (k := 3) (n := 74) (by decide) (by decide) ?_
  refine va_putF (D := D) (ci := 5) (v := .ref a_3) (ty := (tyX5 2)) (C := RX5) (T := TX5) (N := 7) hx hb hts iX5 tyX5 tyX5_ok nmX5 hown hK hP hD hS 0 rfl rfl 2 (by decide) (hts _ qf_X5_19) (fun _ h => h) rfl hin rfl (by decide +kernel) rfl rfl (Nat.le_of_ble_eq_true rfl) dX5_init_25 (fun H locs hP hD hS => ?_)
  exact EWv hx hb hr hlocks hS (fun i => [a_1, a_2, a_3].getD i 0, (fun _ => 0)) rfl trivial (hP.sub [0, 1, 2, 3] rfl) (hD.sub [0, 1, 2, 3] rfl rfl) dX5_init_28
set_option maxHeartbeats 4000000 in
set_option maxRecDepth 100000 in
theorem n_Course (l : Launch) (D : va_G) (k : Nat → ClassId) (h : Nat) : WD (σ := ((Nat → Nat) × (Nat → Int64))) l yX0_init cX0_init 1 none 1 4 561 D k [.ref h] [(h, .inr (0, [.null, .null, .null, .null, .int 0, .int 0]))] (fun _ => none) (fun _ => True) (fun u => [(h, .inr (0, [.ref (u.1 0), .ref (u.1 1), .ref (u.1 2), .ref (u.1 3), .int 0, .int 0])), ((u.1 0), .inl (k 1, 401, .inl (fun _ => 0))), ((u.1 1), .inl (k 1, 20, .inl (fun _ => 0))), ((u.1 2), .inl (k 1, 20, .inl (fun _ => 0))), ((u.1 3), .inl (k 1, 120, .inl (fun _ => 0)))]) := by
  refine MW (by decide) (Nat.le_of_ble_eq_true rfl) (fun p e s m below meth c ls A hx hb hml hr hlocks hin hts hown hKK hP hD hS hA hl => ?_)
  have hK := hKK.1
  have hl : lv_has ls 1 [(0, .ref h)] := hl
  refine lv_aload_n hx hb dX0_init_0 rfl (lv_at hl 0 rfl) ?_
  refine W.objInit hx hb hown (hts _ qm_X0_3) (hts _ qi_objectInit) (hts _ qc_objectInit) rfl (by rw [hml]; exact hl.1) rfl dX0_init_1 (Nat.le_of_ble_eq_true rfl) (Nat.le_of_ble_eq_true rfl) ?_
  refine W.eq (g2 := F0 m 4 ls []) rfl ?_
  refine lv_aload_n hx hb dX0_init_4 rfl (lv_at hl 0 rfl) ?_
  refine lv_sipush (v := 401) hx hb dX0_init_5 (by decide) ?_
  refine nwa (atype := .int) (t := 1) (a0 := (401, .inl (fun _ => 0))) hx hb (hts _ qa_int) rfl rfl hKK hP hD hS hA (fun _ => rfl) (by decide) (by decide +kernel) (by decide) (Nat.le_of_ble_eq_true rfl) (Nat.le_of_ble_eq_true rfl) dX0_init_8 (fun a_1 H hP hD hS => ?_)
  refine W.widen (k := 1) (n := 401) (by decide) (by decide) ?_
  refine va_putF (D := D) (ci := 0) (v := .ref a_1) (ty := (tyX0 0)) (C := RX0) (T := TX0) (N := 6) hx hb hts iX0 tyX0 tyX0_ok nmX0 hown hK hP hD hS 0 rfl rfl 0 (by decide) (hts _ qf_X0_9) (fun _ h => h) rfl hin rfl (by decide +kernel) rfl rfl (Nat.le_of_ble_eq_true rfl) dX0_init_10 (fun H locs hP hD hS => ?_)
  refine lv_aload_n hx hb dX0_init_13 rfl (lv_at hl 0 rfl) ?_
  refine lv_bipush (v := 20) hx hb dX0_init_14 (by decide) ?_
  refine nwa (atype := .int) (t := 1) (a0 := (20, .inl (fun _ => 0))) hx hb (hts _ qa_int) rfl rfl hKK hP hD hS hA (fun _ => rfl) (by decide) (by decide +kernel) (by decide) (Nat.le_of_ble_eq_true rfl) (Nat.le_of_ble_eq_true rfl) dX0_init_16 (fun a_2 H hP hD hS => ?_)
  refine W.widen (k := 2) (n := 421) (by decide) (by decide) ?_
  refine va_putF (D := D) (ci := 0) (v := .ref a_2) (ty := (tyX0 1)) (C := RX0) (T := TX0) (N := 6) hx hb hts iX0 tyX0 tyX0_ok nmX0 hown hK hP hD hS 0 rfl rfl 1 (by decide) (hts _ qf_X0_15) (fun _ h => h) rfl hin rfl (by decide +kernel) rfl rfl (Nat.le_of_ble_eq_true rfl) dX0_init_18 (fun H locs hP hD hS => ?_)
  refine lv_aload_n hx hb dX0_init_21 rfl (lv_at hl 0 rfl) ?_
  refine lv_bipush (v := 20) hx hb dX0_init_22 (by decide) ?_
  refine nwa (atype := .int) (t := 1) (a0 := (20, .inl (fun _ => 0))) hx hb (hts _ qa_int) rfl rfl hKK hP hD hS hA (fun _ => rfl) (by decide) (by decide +kernel) (by decide) (Nat.le_of_ble_eq_true rfl) (Nat.le_of_ble_eq_true rfl) dX0_init_24 (fun a_3 H hP hD hS => ?_)
  refine W.widen (k := 3) (n := 441) (by decide) (by decide) ?_
  refine va_putF (D := D) (ci := 0) (v := .ref a_3) (ty := (tyX0 2)) (C := RX0) (T := TX0) (N := 6) hx hb hts iX0 tyX0 tyX0_ok nmX0 hown hK hP hD hS 0 rfl rfl 2 (by decide) (hts _ qf_X0_18) (fun _ h => h) rfl hin rfl (by decide +kernel) rfl rfl (Nat.le_of_ble_eq_true rfl) dX0_init_26 (fun H locs hP hD hS => ?_)
  refine lv_aload_n hx hb dX0_init_29 rfl (lv_at hl 0 rfl) ?_
  refine lv_bipush (v := 120) hx hb dX0_init_30 (by decide) ?_
  refine nwa (atype := .int) (t := 1) (a0 := (120, .inl (fun _ => 0))) hx hb (hts _ qa_int) rfl rfl hKK hP hD hS hA (fun _ => rfl) (by decide) (by decide +kernel) (by decide) (Nat.le_of_ble_eq_true rfl) (Nat.le_of_ble_eq_true rfl) dX0_init_32 (fun a_4 H hP hD hS => ?_)
  refine W.widen (k := 4) (n := 561) (by decide) (by decide) ?_
  refine va_putF (D := D) (ci := 0) (v := .ref a_4) (ty := (tyX0 3)) (C := RX0) (T := TX0) (N := 6) hx hb hts iX0 tyX0 tyX0_ok nmX0 hown hK hP hD hS 0 rfl rfl 3 (by decide) (hts _ qf_X0_21) (fun _ h => h) rfl hin rfl (by decide +kernel) rfl rfl (Nat.le_of_ble_eq_true rfl) dX0_init_34 (fun H locs hP hD hS => ?_)
  exact EWv hx hb hr hlocks hS (fun i => [a_1, a_2, a_3, a_4].getD i 0, (fun _ => 0)) rfl trivial (hP.sub [0, 1, 2, 3, 4] rfl) (hD.sub [0, 1, 2, 3, 4] rfl rfl) dX0_init_37
set_option maxHeartbeats 4000000 in
set_option maxRecDepth 100000 in
theorem n_Years (l : Launch) (D : va_G) (k : Nat → ClassId) (h : Nat) : WD (σ := ((Nat → Nat) × (Nat → Int64))) l yX9_init cX9_init 1 none 1 5 300 D k [.ref h] [(h, .inr (9, [.null, .null, .null, .null, .null, .int 0, .int 0, .int 0]))] (fun _ => none) (fun _ => True) (fun u => [(h, .inr (9, [.ref (u.1 0), .ref (u.1 1), .ref (u.1 2), .ref (u.1 3), .ref (u.1 4), .int 0, .int 0, .int 0])), ((u.1 0), .inl (k 1, 60, .inl (fun _ => 0))), ((u.1 1), .inl (k 1, 60, .inl (fun _ => 0))), ((u.1 2), .inl (k 1, 60, .inl (fun _ => 0))), ((u.1 3), .inl (k 1, 60, .inl (fun _ => 0))), ((u.1 4), .inl (k 1, 60, .inl (fun _ => 0)))]) := by
  refine MW (by decide) (Nat.le_of_ble_eq_true rfl) (fun p e s m below meth c ls A hx hb hml hr hlocks hin hts hown hKK hP hD hS hA hl => ?_)
  have hK := hKK.1
  have hl : lv_has ls 1 [(0, .ref h)] := hl
  refine lv_aload_n hx hb dX9_init_0 rfl (lv_at hl 0 rfl) ?_
  refine W.objInit hx hb hown (hts _ qm_X9_3) (hts _ qi_objectInit) (hts _ qc_objectInit) rfl (by rw [hml]; exact hl.1) rfl dX9_init_1 (Nat.le_of_ble_eq_true rfl) (Nat.le_of_ble_eq_true rfl) ?_
  refine W.eq (g2 := F0 m 4 ls []) rfl ?_
  refine lv_aload_n hx hb dX9_init_4 rfl (lv_at hl 0 rfl) ?_
  refine lv_bipush (v := 60) hx hb dX9_init_5 (by decide) ?_
  refine nwa (atype := .int) (t := 1) (a0 := (60, .inl (fun _ => 0))) hx hb (hts _ qa_int) rfl rfl hKK hP hD hS hA (fun _ => rfl) (by decide) (by decide +kernel) (by decide) (Nat.le_of_ble_eq_true rfl) (Nat.le_of_ble_eq_true rfl) dX9_init_7 (fun a_1 H hP hD hS => ?_)
  refine W.widen (k := 1) (n := 60) (by decide) (by decide) ?_
  refine va_putF (D := D) (ci := 9) (v := .ref a_1) (ty := (tyX9 0)) (C := RX9) (T := TX9) (N := 8) hx hb hts iX9 tyX9 tyX9_ok nmX9 hown hK hP hD hS 0 rfl rfl 0 (by decide) (hts _ qf_X9_11) (fun _ h => h) rfl hin rfl (by decide +kernel) rfl rfl (Nat.le_of_ble_eq_true rfl) dX9_init_9 (fun H locs hP hD hS => ?_)
  refine lv_aload_n hx hb dX9_init_12 rfl (lv_at hl 0 rfl) ?_
  refine lv_bipush (v := 60) hx hb dX9_init_13 (by decide) ?_
  refine nwa (atype := .int) (t := 1) (a0 := (60, .inl (fun _ => 0))) hx hb (hts _ qa_int) rfl rfl hKK hP hD hS hA (fun _ => rfl) (by decide) (by decide +kernel) (by decide) (Nat.le_of_ble_eq_true rfl) (Nat.le_of_ble_eq_true rfl) dX9_init_15 (fun a_2 H hP hD hS => ?_)
  refine W.widen (k := 2) (n := 120) (by decide) (by decide) ?_
  refine va_putF (D := D) (ci := 9) (v := .ref a_2) (ty := (tyX9 1)) (C := RX9) (T := TX9) (N := 8) hx hb hts iX9 tyX9 tyX9_ok nmX9 hown hK hP hD hS 0 rfl rfl 1 (by decide) (hts _ qf_X9_15) (fun _ h => h) rfl hin rfl (by decide +kernel) rfl rfl (Nat.le_of_ble_eq_true rfl) dX9_init_17 (fun H locs hP hD hS => ?_)
  refine lv_aload_n hx hb dX9_init_20 rfl (lv_at hl 0 rfl) ?_
  refine lv_bipush (v := 60) hx hb dX9_init_21 (by decide) ?_
  refine nwa (atype := .int) (t := 1) (a0 := (60, .inl (fun _ => 0))) hx hb (hts _ qa_int) rfl rfl hKK hP hD hS hA (fun _ => rfl) (by decide) (by decide +kernel) (by decide) (Nat.le_of_ble_eq_true rfl) (Nat.le_of_ble_eq_true rfl) dX9_init_23 (fun a_3 H hP hD hS => ?_)
  refine W.widen (k := 3) (n := 180) (by decide) (by decide) ?_
  refine va_putF (D := D) (ci := 9) (v := .ref a_3) (ty := (tyX9 2)) (C := RX9) (T := TX9) (N := 8) hx hb hts iX9 tyX9 tyX9_ok nmX9 hown hK hP hD hS 0 rfl rfl 2 (by decide) (hts _ qf_X9_18) (fun _ h => h) rfl hin rfl (by decide +kernel) rfl rfl (Nat.le_of_ble_eq_true rfl) dX9_init_25 (fun H locs hP hD hS => ?_)
  refine lv_aload_n hx hb dX9_init_28 rfl (lv_at hl 0 rfl) ?_
  refine lv_bipush (v := 60) hx hb dX9_init_29 (by decide) ?_
  refine nwa (atype := .int) (t := 1) (a0 := (60, .inl (fun _ => 0))) hx hb (hts _ qa_int) rfl rfl hKK hP hD hS hA (fun _ => rfl) (by decide) (by decide +kernel) (by decide) (Nat.le_of_ble_eq_true rfl) (Nat.le_of_ble_eq_true rfl) dX9_init_31 (fun a_4 H hP hD hS => ?_)
  refine W.widen (k := 4) (n := 240) (by decide) (by decide) ?_
  refine va_putF (D := D) (ci := 9) (v := .ref a_4) (ty := (tyX9 3)) (C := RX9) (T := TX9) (N := 8) hx hb hts iX9 tyX9 tyX9_ok nmX9 hown hK hP hD hS 0 rfl rfl 3 (by decide) (hts _ qf_X9_21) (fun _ h => h) rfl hin rfl (by decide +kernel) rfl rfl (Nat.le_of_ble_eq_true rfl) dX9_init_33 (fun H locs hP hD hS => ?_)
  refine lv_aload_n hx hb dX9_init_36 rfl (lv_at hl 0 rfl) ?_
  refine lv_bipush (v := 60) hx hb dX9_init_37 (by decide) ?_
  refine nwa (atype := .int) (t := 1) (a0 := (60, .inl (fun _ => 0))) hx hb (hts _ qa_int) rfl rfl hKK hP hD hS hA (fun _ => rfl) (by decide) (by decide +kernel) (by decide) (Nat.le_of_ble_eq_true rfl) (Nat.le_of_ble_eq_true rfl) dX9_init_39 (fun a_5 H hP hD hS => ?_)
  refine W.widen (k := 5) (n := 300) (by decide) (by decide) ?_
  refine va_putF (D := D) (ci := 9) (v := .ref a_5) (ty := (tyX9 4)) (C := RX9) (T := TX9) (N := 8) hx hb hts iX9 tyX9 tyX9_ok nmX9 hown hK hP hD hS 0 rfl rfl 4 (by decide) (hts _ qf_X9_24) (fun _ h => h) rfl hin rfl (by decide +kernel) rfl rfl (Nat.le_of_ble_eq_true rfl) dX9_init_41 (fun H locs hP hD hS => ?_)
  exact EWv hx hb hr hlocks hS (fun i => [a_1, a_2, a_3, a_4, a_5].getD i 0, (fun _ => 0)) rfl trivial (hP.sub [0, 1, 2, 3, 4, 5] rfl) (hD.sub [0, 1, 2, 3, 4, 5] rfl rfl) dX9_init_44
set_option maxHeartbeats 4000000 in
set_option maxRecDepth 100000 in
theorem n_Tray (l : Launch) (D : va_G) (k : Nat → ClassId) (h : Nat) : WD (σ := ((Nat → Nat) × (Nat → Int64))) l yX7_init cX7_init 1 none 1 1 60 D k [.ref h] [(h, .inr (7, [.null, .int 0, .int 0]))] (fun _ => none) (fun _ => True) (fun u => [(h, .inr (7, [.ref (u.1 0), .int 0, .int (-1)])), ((u.1 0), .inl (k 2, 60, .inr (.inl (fun _ => 0))))]) := by
  refine MW (by decide) (Nat.le_of_ble_eq_true rfl) (fun p e s m below meth c ls A hx hb hml hr hlocks hin hts hown hKK hP hD hS hA hl => ?_)
  have hK := hKK.1
  have hl : lv_has ls 1 [(0, .ref h)] := hl
  refine lv_aload_n hx hb dX7_init_0 rfl (lv_at hl 0 rfl) ?_
  refine W.objInit hx hb hown (hts _ qm_X7_3) (hts _ qi_objectInit) (hts _ qc_objectInit) rfl (by rw [hml]; exact hl.1) rfl dX7_init_1 (Nat.le_of_ble_eq_true rfl) (Nat.le_of_ble_eq_true rfl) ?_
  refine W.eq (g2 := F0 m 4 ls []) rfl ?_
  refine lv_aload_n hx hb dX7_init_4 rfl (lv_at hl 0 rfl) ?_
  refine lv_bipush (v := 60) hx hb dX7_init_5 (by decide) ?_
  refine nwa (atype := .long) (t := 2) (a0 := (60, .inr (.inl (fun _ => 0)))) hx hb (hts _ qa_long) rfl rfl hKK hP hD hS hA (fun _ => rfl) (by decide) (by decide +kernel) (by decide) (Nat.le_of_ble_eq_true rfl) (Nat.le_of_ble_eq_true rfl) dX7_init_7 (fun a_1 H hP hD hS => ?_)
  refine W.widen (k := 1) (n := 60) (by decide) (by decide) ?_
  refine va_putF (D := D) (ci := 7) (v := .ref a_1) (ty := (tyX7 0)) (C := RX7) (T := TX7) (N := 3) hx hb hts iX7 tyX7 tyX7_ok nmX7 hown hK hP hD hS 0 rfl rfl 0 (by decide) (hts _ qf_X7_9) (fun _ h => h) rfl hin rfl (by decide +kernel) rfl rfl (Nat.le_of_ble_eq_true rfl) dX7_init_9 (fun H locs hP hD hS => ?_)
  refine lv_aload_n hx hb dX7_init_12 rfl (lv_at hl 0 rfl) ?_
  refine lv_iconst (v := (-1)) hx hb dX7_init_13 (by decide) ?_
  refine va_put (D := D) (ci := 7) (v := .int (-1)) (ty := .int) (C := RX7) (T := TX7) (N := 3) hx hb hts iX7 tyX7 tyX7_ok nmX7 hown hK hP hD hS 0 rfl rfl 2 (bl rfl) (hts _ qf_X7_15) (fun _ h => h) rfl (by decide +kernel) rfl rfl (Nat.le_of_ble_eq_true rfl) dX7_init_14 (fun H locs hP hD hS => ?_)
  exact EWv hx hb hr hlocks hS (fun i => [a_1].getD i 0, (fun _ => 0)) rfl trivial (hP.sub [0, 1] rfl) (hD.sub [0, 1] rfl rfl) dX7_init_17
set_option maxHeartbeats 4000000 in
set_option maxRecDepth 100000 in
theorem n_World (l : Launch) (D : va_G) (k : Nat → ClassId) (h : Nat) : WD (σ := ((Nat → Nat) × (Nat → Int64))) l yX8_init cX8_init 1 none 2 15 956 D k [.ref h] [(h, .inr (8, [.null, .null, .null]))] (fun _ => none) (fun _ => True) (fun u => [(h, .inr (8, [.ref (u.1 0), .ref (u.1 1), .ref (u.1 2)])), ((u.1 0), .inr (5, [.ref (u.1 3), .ref (u.1 4), .ref (u.1 5), .int 0, .int 0, .int 0, .int 0])), ((u.1 3), .inl (k 2, 6, .inr (.inl (fun _ => 0)))), ((u.1 4), .inl (k 1, 36, .inl (fun _ => 0))), ((u.1 5), .inl (k 1, 32, .inl (fun _ => 0))), ((u.1 1), .inr (0, [.ref (u.1 6), .ref (u.1 7), .ref (u.1 8), .ref (u.1 9), .int 0, .int 0])), ((u.1 6), .inl (k 1, 401, .inl (fun _ => 0))), ((u.1 7), .inl (k 1, 20, .inl (fun _ => 0))), ((u.1 8), .inl (k 1, 20, .inl (fun _ => 0))), ((u.1 9), .inl (k 1, 120, .inl (fun _ => 0))), ((u.1 2), .inr (9, [.ref (u.1 10), .ref (u.1 11), .ref (u.1 12), .ref (u.1 13), .ref (u.1 14), .int 0, .int 0, .int 0])), ((u.1 10), .inl (k 1, 60, .inl (fun _ => 0))), ((u.1 11), .inl (k 1, 60, .inl (fun _ => 0))), ((u.1 12), .inl (k 1, 60, .inl (fun _ => 0))), ((u.1 13), .inl (k 1, 60, .inl (fun _ => 0))), ((u.1 14), .inl (k 1, 60, .inl (fun _ => 0)))]) := by
  refine MW (by decide) (Nat.le_of_ble_eq_true rfl) (fun p e s m below meth c ls A hx hb hml hr hlocks hin hts hown hKK hP hD hS hA hl => ?_)
  have hK := hKK.1
  have hl : lv_has ls 1 [(0, .ref h)] := hl
  refine lv_aload_n hx hb dX8_init_0 rfl (lv_at hl 0 rfl) ?_
  refine W.objInit hx hb hown (hts _ qm_X8_3) (hts _ qi_objectInit) (hts _ qc_objectInit) rfl (by rw [hml]; exact hl.1) rfl dX8_init_1 (Nat.le_of_ble_eq_true rfl) (Nat.le_of_ble_eq_true rfl) ?_
  refine W.eq (g2 := F0 m 4 ls []) rfl ?_
  refine lv_aload_n hx hb dX8_init_4 rfl (lv_at hl 0 rfl) ?_
  refine va_new (ci := 5) (fs := [.null, .null, .null, .int 0, .int 0, .int 0, .int 0]) (C := RX5) (T := TX5) (N := 7) hx hb hts iX5 tyX5 tyX5_ok hown (hts _ ql_X8_9) (hts _ qy_X5) (hts _ qz_X5) hK hP hD hS hA rfl (fun j hj => by rcases (show j = 0 ∨ j = 1 ∨ j = 2 ∨ j = 3 ∨ j = 4 ∨ j = 5 ∨ j = 6 by omega) with rfl | rfl | rfl | rfl | rfl | rfl | rfl <;> rfl) (Nat.le_of_ble_eq_true rfl) (Nat.le_of_ble_eq_true rfl) dX8_init_5 (fun a_1 H hP hD hS => ?_)
  refine W.widen (k := 1) (n := 7) (by decide) (by decide) ?_
  refine lv_dup hx hb dX8_init_8 rfl ?_
  refine CWN (As := []) (rest := [.ref a_1, .ref h]) (wc := [(a_1, .inr (5, [.null, .null, .null, .int 0, .int 0, .int 0, .int 0]))]) (wr := [(h, .inr (8, [.null, .null, .null]))]) hx hb hml hown hts hKK hP hD hS hA (n_Sky l D k a_1) ci_X5_init hKK.2.1.2.2.1 ⟨Nat.le_of_ble_eq_true rfl, Nat.le_of_ble_eq_true rfl⟩ ⟨Nat.le_of_ble_eq_true rfl, Nat.le_of_ble_eq_true rfl⟩ [1] [0] rfl rfl rfl rfl rfl (by decide) rfl hl.1 rfl (Nat.le_of_ble_eq_true rfl) dX8_init_9 (fun u_2 H locs hφ hP hD hS => ?_)
  refine W.eq (g2 := F0 m 12 ls [.ref a_1, .ref h]) rfl ?_
  refine W.widen (k := 4) (n := 81) (by decide) (by decide) ?_
  refine va_putF (D := D) (ci := 8) (v := .ref a_1) (ty := (tyX8 0)) (C := RX8) (T := TX8) (N := 3) hx hb hts iX8 tyX8 tyX8_ok nmX8 hown hK hP hD hS 0 rfl rfl 0 (by decide) (hts _ qf_X8_12) (fun _ h => h) rfl hin rfl (by decide +kernel) rfl rfl (Nat.le_of_ble_eq_true rfl) dX8_init_12 (fun H locs hP hD hS => ?_)
  refine lv_aload_n hx hb dX8_init_15 rfl (lv_at hl 0 rfl) ?_
  refine va_new (ci := 0) (fs := [.null, .null, .null, .null, .int 0, .int 0]) (C := RX0) (T := TX0) (N := 6) hx hb hts iX0 tyX0 tyX0_ok hown (hts _ ql_X8_18) (hts _ qy_X0) (hts _ qz_X0) hK hP hD hS hA rfl (fun j hj => by rcases (show j = 0 ∨ j = 1 ∨ j = 2 ∨ j = 3 ∨ j = 4 ∨ j = 5 by omega) with rfl | rfl | rfl | rfl | rfl | rfl <;> rfl) (Nat.le_of_ble_eq_true rfl) (Nat.le_of_ble_eq_true rfl) dX8_init_16 (fun a_3 H hP hD hS => ?_)
  refine W.widen (k := 5) (n := 87) (by decide) (by decide) ?_
  refine lv_dup hx hb dX8_init_19 rfl ?_
  refine CWN (As := []) (rest := [.ref a_3, .ref h]) (wc := [(a_3, .inr (0, [.null, .null, .null, .null, .int 0, .int 0]))]) (wr := [(h, .inr (8, [.ref a_1, .null, .null])), (a_1, .inr (5, [.ref (u_2.1 0), .ref (u_2.1 1), .ref (u_2.1 2), .int 0, .int 0, .int 0, .int 0])), ((u_2.1 0), .inl (k 2, 6, .inr (.inl (fun _ => 0)))), ((u_2.1 1), .inl (k 1, 36, .inl (fun _ => 0))), ((u_2.1 2), .inl (k 1, 32, .inl (fun _ => 0)))]) hx hb hml hown hts hKK hP hD hS hA (n_Course l D k a_3) ci_X0_init hKK.2.1.2.2.2.1 ⟨Nat.le_of_ble_eq_true rfl, Nat.le_of_ble_eq_true rfl⟩ ⟨Nat.le_of_ble_eq_true rfl, Nat.le_of_ble_eq_true rfl⟩ [5] [0, 1, 2, 3, 4] rfl rfl rfl rfl rfl (by decide) rfl hl.1 rfl (Nat.le_of_ble_eq_true rfl) dX8_init_20 (fun u_4 H locs hφ hP hD hS => ?_)
  refine W.eq (g2 := F0 m 23 ls [.ref a_3, .ref h]) rfl ?_
  refine W.widen (k := 9) (n := 648) (by decide) (by decide) ?_
  refine va_putF (D := D) (ci := 8) (v := .ref a_3) (ty := (tyX8 1)) (C := RX8) (T := TX8) (N := 3) hx hb hts iX8 tyX8 tyX8_ok nmX8 hown hK hP hD hS 0 rfl rfl 1 (by decide) (hts _ qf_X8_21) (fun _ h => h) rfl hin rfl (by decide +kernel) rfl rfl (Nat.le_of_ble_eq_true rfl) dX8_init_23 (fun H locs hP hD hS => ?_)
  refine lv_aload_n hx hb dX8_init_26 rfl (lv_at hl 0 rfl) ?_
  refine va_new (ci := 9) (fs := [.null, .null, .null, .null, .null, .int 0, .int 0, .int 0]) (C := RX9) (T := TX9) (N := 8) hx hb hts iX9 tyX9 tyX9_ok hown (hts _ ql_X8_25) (hts _ qy_X9) (hts _ qz_X9) hK hP hD hS hA rfl (fun j hj => by rcases (show j = 0 ∨ j = 1 ∨ j = 2 ∨ j = 3 ∨ j = 4 ∨ j = 5 ∨ j = 6 ∨ j = 7 by omega) with rfl | rfl | rfl | rfl | rfl | rfl | rfl | rfl <;> rfl) (Nat.le_of_ble_eq_true rfl) (Nat.le_of_ble_eq_true rfl) dX8_init_27 (fun a_5 H hP hD hS => ?_)
  refine W.widen (k := 10) (n := 656) (by decide) (by decide) ?_
  refine lv_dup hx hb dX8_init_30 rfl ?_
  refine CWN (As := []) (rest := [.ref a_5, .ref h]) (wc := [(a_5, .inr (9, [.null, .null, .null, .null, .null, .int 0, .int 0, .int 0]))]) (wr := [(h, .inr (8, [.ref a_1, .ref a_3, .null])), (a_1, .inr (5, [.ref (u_2.1 0), .ref (u_2.1 1), .ref (u_2.1 2), .int 0, .int 0, .int 0, .int 0])), ((u_2.1 0), .inl (k 2, 6, .inr (.inl (fun _ => 0)))), ((u_2.1 1), .inl (k 1, 36, .inl (fun _ => 0))), ((u_2.1 2), .inl (k 1, 32, .inl (fun _ => 0))), (a_3, .inr (0, [.ref (u_4.1 0), .ref (u_4.1 1), .ref (u_4.1 2), .ref (u_4.1 3), .int 0, .int 0])), ((u_4.1 0), .inl (k 1, 401, .inl (fun _ => 0))), ((u_4.1 1), .inl (k 1, 20, .inl (fun _ => 0))), ((u_4.1 2), .inl (k 1, 20, .inl (fun _ => 0))), ((u_4.1 3), .inl (k 1, 120, .inl (fun _ => 0)))]) hx hb hml hown hts hKK hP hD hS hA (n_Years l D k a_5) ci_X9_init hKK.2.1.2.2.2.2 ⟨Nat.le_of_ble_eq_true rfl, Nat.le_of_ble_eq_true rfl⟩ ⟨Nat.le_of_ble_eq_true rfl, Nat.le_of_ble_eq_true rfl⟩ [10] [0, 1, 2, 3, 4, 5, 6, 7, 8, 9] rfl rfl rfl rfl rfl (by decide) rfl hl.1 rfl (Nat.le_of_ble_eq_true rfl) dX8_init_31 (fun u_6 H locs hφ hP hD hS => ?_)
  refine W.eq (g2 := F0 m 34 ls [.ref a_5, .ref h]) rfl ?_
  refine W.widen (k := 15) (n := 956) (by decide) (by decide) ?_
  refine va_putF (D := D) (ci := 8) (v := .ref a_5) (ty := (tyX8 2)) (C := RX8) (T := TX8) (N := 3) hx hb hts iX8 tyX8 tyX8_ok nmX8 hown hK hP hD hS 0 rfl rfl 2 (by decide) (hts _ qf_X8_28) (fun _ h => h) rfl hin rfl (by decide +kernel) rfl rfl (Nat.le_of_ble_eq_true rfl) dX8_init_34 (fun H locs hP hD hS => ?_)
  exact EWv hx hb hr hlocks hS (fun i => [a_1, a_3, a_5, (u_2.1 0), (u_2.1 1), (u_2.1 2), (u_4.1 0), (u_4.1 1), (u_4.1 2), (u_4.1 3), (u_6.1 0), (u_6.1 1), (u_6.1 2), (u_6.1 3), (u_6.1 4)].getD i 0, (fun _ => 0)) rfl trivial (hP.sub [0, 1, 2, 3, 4, 5, 6, 7, 8, 9, 10, 11, 12, 13, 14, 15] rfl) (hD.sub [0, 1, 2, 3, 4, 5, 6, 7, 8, 9, 10, 11, 12, 13, 14, 15] rfl rfl) dX8_init_37
set_option maxHeartbeats 4000000 in
set_option maxRecDepth 100000 in
theorem n_SkyReader (l : Launch) (D : va_G) (k : Nat → ClassId) (h a : Nat) : WD (σ := ((Nat → Nat) × (Nat → Int64))) l yX6_init cX6_init 2 none 1 0 0 D k [.ref h, .ref a] [(h, .inr (6, [.null, .null, .int 0]))] (fun _ => none) (fun _ => True) (fun u => [(h, .inr (6, [.ref a, .null, .int 0]))]) := by
  refine MW (by decide) (Nat.le_of_ble_eq_true rfl) (fun p e s m below meth c ls A hx hb hml hr hlocks hin hts hown hKK hP hD hS hA hl => ?_)
  have hK := hKK.1
  have hl : lv_has ls 2 [(0, .ref h), (1, .ref a)] := hl
  refine lv_aload_n hx hb dX6_init_0 rfl (lv_at hl 0 rfl) ?_
  refine W.objInit hx hb hown (hts _ qm_X6_3) (hts _ qi_objectInit) (hts _ qc_objectInit) rfl (by rw [hml]; exact hl.1) rfl dX6_init_1 (Nat.le_of_ble_eq_true rfl) (Nat.le_of_ble_eq_true rfl) ?_
  refine W.eq (g2 := F0 m 4 ls []) rfl ?_
  refine lv_aload_n hx hb dX6_init_4 rfl (lv_at hl 0 rfl) ?_
  refine lv_aload_n hx hb dX6_init_5 rfl (lv_at hl 1 rfl) ?_
  refine va_putF (D := D) (ci := 6) (v := .ref a) (ty := (tyX6 0)) (C := RX6) (T := TX6) (N := 3) hx hb hts iX6 tyX6 tyX6_ok nmX6 hown hK hP hD hS 0 rfl rfl 0 (by decide) (hts _ qf_X6_9) (fun _ h => h) rfl hin rfl (by decide +kernel) rfl rfl (Nat.le_of_ble_eq_true rfl) dX6_init_6 (fun H locs hP hD hS => ?_)
  exact EWv hx hb hr hlocks hS (fun i => [0].getD i 0, (fun _ => 0)) rfl trivial (hP.sub [0] rfl) (hD.sub [0] rfl rfl) dX6_init_9
set_option maxHeartbeats 4000000 in
set_option maxRecDepth 100000 in
theorem n_YearsReader (l : Launch) (D : va_G) (k : Nat → ClassId) (h a : Nat) : WD (σ := ((Nat → Nat) × (Nat → Int64))) l yX10_init cX10_init 2 none 1 1 3 D k [.ref h, .ref a] [(h, .inr (10, [.null, .null, .int 0, .null, .null]))] (fun _ => none) (fun _ => True) (fun u => [(h, .inr (10, [.ref a, .ref (u.1 0), .int 0, .null, .null])), ((u.1 0), .inl (k 1, 3, .inl (fun _ => 0)))]) := by
  refine MW (by decide) (Nat.le_of_ble_eq_true rfl) (fun p e s m below meth c ls A hx hb hml hr hlocks hin hts hown hKK hP hD hS hA hl => ?_)
  have hK := hKK.1
  have hl : lv_has ls 2 [(0, .ref h), (1, .ref a)] := hl
  refine lv_aload_n hx hb dX10_init_0 rfl (lv_at hl 0 rfl) ?_
  refine W.objInit hx hb hown (hts _ qm_X10_3) (hts _ qi_objectInit) (hts _ qc_objectInit) rfl (by rw [hml]; exact hl.1) rfl dX10_init_1 (Nat.le_of_ble_eq_true rfl) (Nat.le_of_ble_eq_true rfl) ?_
  refine W.eq (g2 := F0 m 4 ls []) rfl ?_
  refine lv_aload_n hx hb dX10_init_4 rfl (lv_at hl 0 rfl) ?_
  refine lv_iconst (v := 3) hx hb dX10_init_5 (by decide) ?_
  refine nwa (atype := .int) (t := 1) (a0 := (3, .inl (fun _ => 0))) hx hb (hts _ qa_int) rfl rfl hKK hP hD hS hA (fun _ => rfl) (by decide) (by decide +kernel) (by decide) (Nat.le_of_ble_eq_true rfl) (Nat.le_of_ble_eq_true rfl) dX10_init_6 (fun a_1 H hP hD hS => ?_)
  refine W.widen (k := 1) (n := 3) (by decide) (by decide) ?_
  refine va_putF (D := D) (ci := 10) (v := .ref a_1) (ty := (tyX10 1)) (C := RX10) (T := TX10) (N := 5) hx hb hts iX10 tyX10 tyX10_ok nmX10 hown hK hP hD hS 0 rfl rfl 1 (by decide) (hts _ qf_X10_9) (fun _ h => h) rfl hin rfl (by decide +kernel) rfl rfl (Nat.le_of_ble_eq_true rfl) dX10_init_8 (fun H locs hP hD hS => ?_)
  refine lv_aload_n hx hb dX10_init_11 rfl (lv_at hl 0 rfl) ?_
  refine lv_aload_n hx hb dX10_init_12 rfl (lv_at hl 1 rfl) ?_
  refine va_putF (D := D) (ci := 10) (v := .ref a) (ty := (tyX10 0)) (C := RX10) (T := TX10) (N := 5) hx hb hts iX10 tyX10 tyX10_ok nmX10 hown hK hP hD hS 0 rfl rfl 0 (by decide) (hts _ qf_X10_15) (fun _ h => h) rfl hin rfl (by decide +kernel) rfl rfl (Nat.le_of_ble_eq_true rfl) dX10_init_13 (fun H locs hP hD hS => ?_)
  exact EWv hx hb hr hlocks hS (fun i => [a_1].getD i 0, (fun _ => 0)) rfl trivial (hP.sub [0, 1] rfl) (hD.sub [0, 1] rfl rfl) dX10_init_16
set_option maxHeartbeats 4000000 in
set_option maxRecDepth 100000 in
theorem n_Rays (l : Launch) (D : va_G) (k : Nat → ClassId) (h a : Nat) : WD (σ := ((Nat → Nat) × (Nat → Int64))) l yX3_init cX3_init 2 none 1 0 0 D k [.ref h, .ref a] [(h, .inr (3, [.null, .long 0, .null, .null]))] (fun _ => none) (fun _ => True) (fun u => [(h, .inr (3, [.ref a, .long 0, .null, .null]))]) := by
  refine MW (by decide) (Nat.le_of_ble_eq_true rfl) (fun p e s m below meth c ls A hx hb hml hr hlocks hin hts hown hKK hP hD hS hA hl => ?_)
  have hK := hKK.1
  have hl : lv_has ls 2 [(0, .ref h), (1, .ref a)] := hl
  refine lv_aload_n hx hb dX3_init_0 rfl (lv_at hl 0 rfl) ?_
  refine W.objInit hx hb hown (hts _ qm_X3_5) (hts _ qi_objectInit) (hts _ qc_objectInit) rfl (by rw [hml]; exact hl.1) rfl dX3_init_1 (Nat.le_of_ble_eq_true rfl) (Nat.le_of_ble_eq_true rfl) ?_
  refine W.eq (g2 := F0 m 4 ls []) rfl ?_
  refine lv_aload_n hx hb dX3_init_4 rfl (lv_at hl 0 rfl) ?_
  refine lv_aload_n hx hb dX3_init_5 rfl (lv_at hl 1 rfl) ?_
  refine va_putF (D := D) (ci := 3) (v := .ref a) (ty := (tyX3 0)) (C := RX3) (T := TX3) (N := 4) hx hb hts iX3 tyX3 tyX3_ok nmX3 hown hK hP hD hS 0 rfl rfl 0 (by decide) (hts _ qf_X3_11) (fun _ h => h) rfl hin rfl (by decide +kernel) rfl rfl (Nat.le_of_ble_eq_true rfl) dX3_init_6 (fun H locs hP hD hS => ?_)
  exact EWv hx hb hr hlocks hS (fun i => [0].getD i 0, (fun _ => 0)) rfl trivial (hP.sub [0] rfl) (hD.sub [0] rfl rfl) dX3_init_9
set_option maxHeartbeats 4000000 in
set_option maxRecDepth 100000 in
theorem n_News (l : Launch) (D : va_G) (k : Nat → ClassId) (h a b : Nat) : WD (σ := ((Nat → Nat) × (Nat → Int64))) l yX2_init cX2_init 3 none 1 4 144 D k [.ref h, .ref a, .ref b] [(h, .inr (2, [.null, .null, .null, .null, .null, .null]))] (fun _ => none) (fun _ => True) (fun u => [(h, .inr (2, [.ref a, .ref b, .ref (u.1 0), .ref (u.1 1), .ref (u.1 2), .ref (u.1 3)])), ((u.1 0), .inl (k 1, 6, .inl (fun _ => 0))), ((u.1 1), .inl (k 1, 6, .inl (fun _ => 0))), ((u.1 2), .inl (k 1, 6, .inl (fun _ => 0))), ((u.1 3), .inl (k 1, 126, .inl (fun _ => 0)))]) := by
  refine MW (by decide) (Nat.le_of_ble_eq_true rfl) (fun p e s m below meth c ls A hx hb hml hr hlocks hin hts hown hKK hP hD hS hA hl => ?_)
  have hK := hKK.1
  have hl : lv_has ls 3 [(0, .ref h), (1, .ref a), (2, .ref b)] := hl
  refine lv_aload_n hx hb dX2_init_0 rfl (lv_at hl 0 rfl) ?_
  refine W.objInit hx hb hown (hts _ qm_X2_3) (hts _ qi_objectInit) (hts _ qc_objectInit) rfl (by rw [hml]; exact hl.1) rfl dX2_init_1 (Nat.le_of_ble_eq_true rfl) (Nat.le_of_ble_eq_true rfl) ?_
  refine W.eq (g2 := F0 m 4 ls []) rfl ?_
  refine lv_aload_n hx hb dX2_init_4 rfl (lv_at hl 0 rfl) ?_
  refine lv_bipush (v := 6) hx hb dX2_init_5 (by decide) ?_
  refine nwa (atype := .int) (t := 1) (a0 := (6, .inl (fun _ => 0))) hx hb (hts _ qa_int) rfl rfl hKK hP hD hS hA (fun _ => rfl) (by decide) (by decide +kernel) (by decide) (Nat.le_of_ble_eq_true rfl) (Nat.le_of_ble_eq_true rfl) dX2_init_7 (fun a_1 H hP hD hS => ?_)
  refine W.widen (k := 1) (n := 6) (by decide) (by decide) ?_
  refine va_putF (D := D) (ci := 2) (v := .ref a_1) (ty := (tyX2 2)) (C := RX2) (T := TX2) (N := 6) hx hb hts iX2 tyX2 tyX2_ok nmX2 hown hK hP hD hS 0 rfl rfl 2 (by decide) (hts _ qf_X2_9) (fun _ h => h) rfl hin rfl (by decide +kernel) rfl rfl (Nat.le_of_ble_eq_true rfl) dX2_init_9 (fun H locs hP hD hS => ?_)
  refine lv_aload_n hx hb dX2_init_12 rfl (lv_at hl 0 rfl) ?_
  refine lv_bipush (v := 6) hx hb dX2_init_13 (by decide) ?_
  refine nwa (atype := .int) (t := 1) (a0 := (6, .inl (fun _ => 0))) hx hb (hts _ qa_int) rfl rfl hKK hP hD hS hA (fun _ => rfl) (by decide) (by decide +kernel) (by decide) (Nat.le_of_ble_eq_true rfl) (Nat.le_of_ble_eq_true rfl) dX2_init_15 (fun a_2 H hP hD hS => ?_)
  refine W.widen (k := 2) (n := 12) (by decide) (by decide) ?_
  refine va_putF (D := D) (ci := 2) (v := .ref a_2) (ty := (tyX2 3)) (C := RX2) (T := TX2) (N := 6) hx hb hts iX2 tyX2 tyX2_ok nmX2 hown hK hP hD hS 0 rfl rfl 3 (by decide) (hts _ qf_X2_15) (fun _ h => h) rfl hin rfl (by decide +kernel) rfl rfl (Nat.le_of_ble_eq_true rfl) dX2_init_17 (fun H locs hP hD hS => ?_)
  refine lv_aload_n hx hb dX2_init_20 rfl (lv_at hl 0 rfl) ?_
  refine lv_bipush (v := 6) hx hb dX2_init_21 (by decide) ?_
  refine nwa (atype := .int) (t := 1) (a0 := (6, .inl (fun _ => 0))) hx hb (hts _ qa_int) rfl rfl hKK hP hD hS hA (fun _ => rfl) (by decide) (by decide +kernel) (by decide) (Nat.le_of_ble_eq_true rfl) (Nat.le_of_ble_eq_true rfl) dX2_init_23 (fun a_3 H hP hD hS => ?_)
  refine W.widen (k := 3) (n := 18) (by decide) (by decide) ?_
  refine va_putF (D := D) (ci := 2) (v := .ref a_3) (ty := (tyX2 4)) (C := RX2) (T := TX2) (N := 6) hx hb hts iX2 tyX2 tyX2_ok nmX2 hown hK hP hD hS 0 rfl rfl 4 (by decide) (hts _ qf_X2_18) (fun _ h => h) rfl hin rfl (by decide +kernel) rfl rfl (Nat.le_of_ble_eq_true rfl) dX2_init_25 (fun H locs hP hD hS => ?_)
  refine lv_aload_n hx hb dX2_init_28 rfl (lv_at hl 0 rfl) ?_
  refine lv_bipush (v := 126) hx hb dX2_init_29 (by decide) ?_
  refine nwa (atype := .int) (t := 1) (a0 := (126, .inl (fun _ => 0))) hx hb (hts _ qa_int) rfl rfl hKK hP hD hS hA (fun _ => rfl) (by decide) (by decide +kernel) (by decide) (Nat.le_of_ble_eq_true rfl) (Nat.le_of_ble_eq_true rfl) dX2_init_31 (fun a_4 H hP hD hS => ?_)
  refine W.widen (k := 4) (n := 144) (by decide) (by decide) ?_
  refine va_putF (D := D) (ci := 2) (v := .ref a_4) (ty := (tyX2 5)) (C := RX2) (T := TX2) (N := 6) hx hb hts iX2 tyX2 tyX2_ok nmX2 hown hK hP hD hS 0 rfl rfl 5 (by decide) (hts _ qf_X2_21) (fun _ h => h) rfl hin rfl (by decide +kernel) rfl rfl (Nat.le_of_ble_eq_true rfl) dX2_init_33 (fun H locs hP hD hS => ?_)
  refine lv_aload_n hx hb dX2_init_36 rfl (lv_at hl 0 rfl) ?_
  refine lv_aload_n hx hb dX2_init_37 rfl (lv_at hl 1 rfl) ?_
  refine va_putF (D := D) (ci := 2) (v := .ref a) (ty := (tyX2 0)) (C := RX2) (T := TX2) (N := 6) hx hb hts iX2 tyX2 tyX2_ok nmX2 hown hK hP hD hS 0 rfl rfl 0 (by decide) (hts _ qf_X2_24) (fun _ h => h) rfl hin rfl (by decide +kernel) rfl rfl (Nat.le_of_ble_eq_true rfl) dX2_init_38 (fun H locs hP hD hS => ?_)
  refine lv_aload_n hx hb dX2_init_41 rfl (lv_at hl 0 rfl) ?_
  refine lv_aload_n hx hb dX2_init_42 rfl (lv_at hl 2 rfl) ?_
  refine va_putF (D := D) (ci := 2) (v := .ref b) (ty := (tyX2 1)) (C := RX2) (T := TX2) (N := 6) hx hb hts iX2 tyX2 tyX2_ok nmX2 hown hK hP hD hS 0 rfl rfl 1 (by decide) (hts _ qf_X2_28) (fun _ h => h) rfl hin rfl (by decide +kernel) rfl rfl (Nat.le_of_ble_eq_true rfl) dX2_init_43 (fun H locs hP hD hS => ?_)
  exact EWv hx hb hr hlocks hS (fun i => [a_1, a_2, a_3, a_4].getD i 0, (fun _ => 0)) rfl trivial (hP.sub [0, 1, 2, 3, 4] rfl) (hD.sub [0, 1, 2, 3, 4] rfl rfl) dX2_init_46
set_option maxHeartbeats 4000000 in
set_option maxRecDepth 100000 in
theorem n_Life (l : Launch) (D : va_G) (k : Nat → ClassId) (h a b c1 : Nat) : WD (σ := ((Nat → Nat) × (Nat → Int64))) l yX1_init cX1_init 4 none 1 1 60 D k [.ref h, .ref a, .ref b, .ref c1] [(h, .inr (1, [.null, .null, .null, .null, .int 0, .int 0, .int 0, .int 0, .int 0, .int 0, .int 0]))] (fun _ => none) (fun _ => True) (fun u => [(h, .inr (1, [.ref a, .ref b, .ref c1, .ref (u.1 0), .int 0, .int 0, .int 0, .int 0, .int 0, .int 0, .int 0])), ((u.1 0), .inl (k 1, 60, .inl (fun _ => 0)))]) := by
  refine MW (by decide) (Nat.le_of_ble_eq_true rfl) (fun p e s m below meth c ls A hx hb hml hr hlocks hin hts hown hKK hP hD hS hA hl => ?_)
  have hK := hKK.1
  have hl : lv_has ls 4 [(0, .ref h), (1, .ref a), (2, .ref b), (3, .ref c1)] := hl
  refine lv_aload_n hx hb dX1_init_0 rfl (lv_at hl 0 rfl) ?_
  refine W.objInit hx hb hown (hts _ qm_X1_3) (hts _ qi_objectInit) (hts _ qc_objectInit) rfl (by rw [hml]; exact hl.1) rfl dX1_init_1 (Nat.le_of_ble_eq_true rfl) (Nat.le_of_ble_eq_true rfl) ?_
  refine W.eq (g2 := F0 m 4 ls []) rfl ?_
  refine lv_aload_n hx hb dX1_init_4 rfl (lv_at hl 0 rfl) ?_
  refine lv_bipush (v := 60) hx hb dX1_init_5 (by decide) ?_
  refine nwa (atype := .int) (t := 1) (a0 := (60, .inl (fun _ => 0))) hx hb (hts _ qa_int) rfl rfl hKK hP hD hS hA (fun _ => rfl) (by decide) (by decide +kernel) (by decide) (Nat.le_of_ble_eq_true rfl) (Nat.le_of_ble_eq_true rfl) dX1_init_7 (fun a_1 H hP hD hS => ?_)
  refine W.widen (k := 1) (n := 60) (by decide) (by decide) ?_
  refine va_putF (D := D) (ci := 1) (v := .ref a_1) (ty := (tyX1 3)) (C := RX1) (T := TX1) (N := 11) hx hb hts iX1 tyX1 tyX1_ok nmX1 hown hK hP hD hS 0 rfl rfl 3 (by decide) (hts _ qf_X1_11) (fun _ h => h) rfl hin rfl (by decide +kernel) rfl rfl (Nat.le_of_ble_eq_true rfl) dX1_init_9 (fun H locs hP hD hS => ?_)
  refine lv_aload_n hx hb dX1_init_12 rfl (lv_at hl 0 rfl) ?_
  refine lv_aload_n hx hb dX1_init_13 rfl (lv_at hl 1 rfl) ?_
  refine va_putF (D := D) (ci := 1) (v := .ref a) (ty := (tyX1 0)) (C := RX1) (T := TX1) (N := 11) hx hb hts iX1 tyX1 tyX1_ok nmX1 hown hK hP hD hS 0 rfl rfl 0 (by decide) (hts _ qf_X1_17) (fun _ h => h) rfl hin rfl (by decide +kernel) rfl rfl (Nat.le_of_ble_eq_true rfl) dX1_init_14 (fun H locs hP hD hS => ?_)
  refine lv_aload_n hx hb dX1_init_17 rfl (lv_at hl 0 rfl) ?_
  refine lv_aload_n hx hb dX1_init_18 rfl (lv_at hl 2 rfl) ?_
  refine va_putF (D := D) (ci := 1) (v := .ref b) (ty := (tyX1 1)) (C := RX1) (T := TX1) (N := 11) hx hb hts iX1 tyX1 tyX1_ok nmX1 hown hK hP hD hS 0 rfl rfl 1 (by decide) (hts _ qf_X1_21) (fun _ h => h) rfl hin rfl (by decide +kernel) rfl rfl (Nat.le_of_ble_eq_true rfl) dX1_init_19 (fun H locs hP hD hS => ?_)
  refine lv_aload_n hx hb dX1_init_22 rfl (lv_at hl 0 rfl) ?_
  refine lv_aload_n hx hb dX1_init_23 rfl (lv_at hl 3 rfl) ?_
  refine va_putF (D := D) (ci := 1) (v := .ref c1) (ty := (tyX1 2)) (C := RX1) (T := TX1) (N := 11) hx hb hts iX1 tyX1 tyX1_ok nmX1 hown hK hP hD hS 0 rfl rfl 2 (by decide) (hts _ qf_X1_25) (fun _ h => h) rfl hin rfl (by decide +kernel) rfl rfl (Nat.le_of_ble_eq_true rfl) dX1_init_24 (fun H locs hP hD hS => ?_)
  exact EWv hx hb hr hlocks hS (fun i => [a_1].getD i 0, (fun _ => 0)) rfl trivial (hP.sub [0, 1] rfl) (hD.sub [0, 1] rfl rfl) dX1_init_27
def kwX (i : Nat) : Int := ([114, 111, 99, 107, 32, 102, 97, 114, 32, 114, 111, 117, 110, 100, 32, 97, 116, 32, 114, 97, 110, 107, 32, 112, 114, 105, 99, 101, 32, 115, 119, 105, 110, 103, 32, 119, 101, 97, 114, 115, 32, 105, 99, 101, 32, 102, 114, 111, 109, 32, 116, 111, 32, 108, 97, 119, 32, 102, 105, 114, 115, 116, 32, 108, 97, 115, 116, 32, 115, 101, 110, 116, 32, 119, 101, 101, 107, 32, 119, 101, 97, 114, 32, 111, 114, 100, 101, 114, 32, 99, 104, 97, 110, 99, 101, 32, 119, 104, 101, 110, 32, 114, 117, 108, 101, 115, 32, 105, 110, 32, 108, 111, 111, 112, 32, 101, 110, 100, 32, 115, 116, 111, 112, 32] : List Int).getD i 0
def cdT (i : Nat) : Int := ([0, 18, 591, 18915, 605291, 0, 6, 193, 6194, 0, 18, 591, 18933, 605870, 19387844, 0, 1, 52, 0, 18, 577, 18478, 591307, 0, 16, 530, 16969, 543011, 17376357, 0, 19, 631, 20201, 646446, 20686279, 0, 23, 741, 23713, 758834, 24282707, 0, 9, 291, 9317, 0, 6, 210, 6735, 215533, 0, 20, 655, 0, 12, 385, 12343, 0, 6, 201, 6450, 206419, 6605428, 0, 12, 385, 12339, 394868, 0, 19, 613, 19630, 628180, 0, 23, 741, 23717, 758955, 0, 23, 741, 23713, 758834, 0, 15, 498, 15940, 510085, 16322738, 0, 3, 104, 3329, 106542, 3409347, 109099109, 0, 23, 744, 23813, 762030, 0, 18, 597, 19116, 611717, 19574963, 0, 9, 302, 0, 12, 399, 12783, 409072, 0, 5, 174, 5572, 0, 19, 628, 20111, 643568, 0] : List Int).getD i 0
def knT (i : Nat) : Nat := ([0, 0, 0, 0, 0, 1, 1, 1, 1, 2, 2, 2, 2, 2, 2, 3, 3, 3, 4, 4, 4, 4, 4, 5, 5, 5, 5, 5, 5, 6, 6, 6, 6, 6, 6, 7, 7, 7, 7, 7, 7, 8, 8, 8, 8, 9, 9, 9, 9, 9, 10, 10, 10, 11, 11, 11, 11, 12, 12, 12, 12, 12, 12, 13, 13, 13, 13, 13, 14, 14, 14, 14, 14, 15, 15, 15, 15, 15, 16, 16, 16, 16, 16, 17, 17, 17, 17, 17, 17, 18, 18, 18, 18, 18, 18, 18, 19, 19, 19, 19, 19, 20, 20, 20, 20, 20, 20, 21, 21, 21, 22, 22, 22, 22, 22, 23, 23, 23, 23, 24, 24, 24, 24, 24, 25] : List Nat).getD i 0
theorem rdx_tab : ∀ i : Fin 124, (kwX i.val = 32 → cdT (i.val + 1) = 0 ∧ knT (i.val + 1) = knT i.val + 1 ∧ kwC (knT i.val) = cdT i.val) ∧ (¬ kwX i.val = 32 → cdT (i.val + 1) = cdT i.val * 32 + (kwX i.val - 96) ∧ knT (i.val + 1) = knT i.val) ∧ knT i.val < 25 ∧ 32 ≤ kwX i.val ∧ kwX i.val ≤ 122 := by decide +kernel
theorem rdx_sp {sf : Nat → Int32} {i m : Nat} {g : Nat → Int64} {cd : Int64} (hsf : ∀ i : Nat, i < 124 → ch1 (sf i) = iZ (kwX i)) (hi : i < 124) (hm : m = knT i) (hc : cd = lZ (cdT i)) (hg : ∀ w : Nat, w < m → g w = lZ (kwC w)) (h : ch1 (sf i) = 32) : m + 1 = knT (i + 1) ∧ (0 : Int64) = lZ (cdT (i + 1)) ∧ ∀ w : Nat, w < m + 1 → vp_updL g (nI m).toNatClampNeg cd w = lZ (kwC w) := by
  obtain ⟨t1, -, t3, t4, t5⟩ := rdx_tab ⟨i, hi⟩
  have t4 : 32 ≤ kwX i := t4
  have t5 : kwX i ≤ 122 := t5
  have t3 : knT i < 25 := t3
  have e : kwX i = 32 := by
    rw [hsf i hi] at h
    exact (zeq (x := iZ (kwX i)) (y := 32) (b := 32) rfl rfl ⟨by omega, by omega⟩ ⟨by omega, by omega⟩).mp h
  obtain ⟨a, b, c⟩ := t1 e
  have a : cdT (i + 1) = 0 := a
  have b : knT (i + 1) = knT i + 1 := b
  have c : kwC (knT i) = cdT i := c
  refine ⟨by omega, by rw [a]; rfl, fun w hw => ?_⟩
  rw [nI_clamp (show m < 2 ^ 31 by omega)]
  unfold vp_updL
  by_cases q : w = m
  · rw [if_pos q, q, hc, hm, c]
  · rw [if_neg q]; exact hg w (by omega)
theorem rdx_no {sf : Nat → Int32} {i m : Nat} (hsf : ∀ i : Nat, i < 124 → ch1 (sf i) = iZ (kwX i)) (hi : i < 124) (hm : m = knT i) (h : ¬ ch1 (sf i) = 32) : m = knT (i + 1) ∧ lZ (cdT i) * 32 + (ch1 (sf i)).toInt64 - 97 + 1 = lZ (cdT (i + 1)) := by
  obtain ⟨-, t2, t3, t4, t5⟩ := rdx_tab ⟨i, hi⟩
  have t4 : 32 ≤ kwX i := t4
  have t5 : kwX i ≤ 122 := t5
  have e : ¬ kwX i = 32 := fun e => h (by rw [hsf i hi, e]; rfl)
  obtain ⟨a, b⟩ := t2 e
  have a : cdT (i + 1) = cdT i * 32 + (kwX i - 96) := a
  have b : knT (i + 1) = knT i := b
  refine ⟨by omega, ?_⟩
  rw [a, hsf i hi, i2l_z ⟨by omega, by omega⟩, show (32 : Int64) = lZ 32 from rfl, show (97 : Int64) = lZ 97 from rfl, show (1 : Int64) = lZ 1 from rfl, lZ_mul, lZ_add, lZ_sub, lZ_add]
  congr 1
  omega
theorem rdx_25 {i : Nat} (h : i ≤ 124) (g : ¬ knT i < 25) : i = 124 := by
  rcases Nat.lt_or_eq_of_le h with q | q
  · exact absurd (rdx_tab ⟨i, q⟩).2.2.1 g
  · exact q
theorem kn124 : knT 124 = 25 := by decide +kernel
set_option maxHeartbeats 4000000 in
set_option maxRecDepth 100000 in
theorem jx_charAt1 (l : Launch) (sa sv : Nat) (sf : Nat → Int32) (i : Nat) (hi : i < 124) : Met l yJ1_charAt_3b067 (Cond.code yJ1_charAt_3b067 cJ1_charAt_3b067 2 (some .char) :: gw) (rj 2 0 0) (PZ sa sv sf [.ref sv, .int (nI i)]) (QcRead (ch1 (sf i))) 0 0 (fun _ => False) := by
  refine MZ (by decide) (Nat.le_of_ble_eq_true rfl) (fun p e s m below meth c ls hx hb hml hr hlocks hts hown hSX hl => ?_)
  have hl : lv_has ls 2 [(0, .ref sv), (1, .int (nI i))] := hl
  refine lv_iload_n hx hb dJ1_charAt_3b067_0 rfl (lv_at hl 1 rfl) ?_
  refine lv_aload_n hx hb dJ1_charAt_3b067_1 rfl (lv_at hl 0 rfl) ?_
  refine va_tlen (v := 124) hx hb hSX.2.2.2.1 va_S.rf (by decide +kernel) dJ1_charAt_3b067_2 ?_
  refine callN (rzS (As := [.int (nI i), .int 124]) (rest := []) hx hb hml hown hts hSX (j_check l sa sv sf i hi) ci_J0_checkIndex_df160 qm_J1_9 ⟨Nat.le_of_ble_eq_true rfl, Nat.le_of_ble_eq_true rfl⟩ ⟨Nat.le_of_ble_eq_true rfl, Nat.le_of_ble_eq_true rfl⟩ rfl hl.1 rfl (Nat.le_of_ble_eq_true rfl) dJ1_charAt_3b067_3) ?_
  refine W.eq (g2 := F0 m 6 ls []) rfl ?_
  refine lv_aload_n hx hb dJ1_charAt_3b067_6 rfl (lv_at hl 0 rfl) ?_
  refine lv_iload_n hx hb dJ1_charAt_3b067_7 rfl (lv_at hl 1 rfl) ?_
  refine va_tb hx hb hSX.2.2.2.1 va_S.rf (vp_in_nI hi (by decide)) rfl dJ1_charAt_3b067_8 ?_
  refine lv_sipush (v := 255) hx hb dJ1_charAt_3b067_9 (by decide) ?_
  refine lv_iand hx hb dJ1_charAt_3b067_12 ?_
  refine lv_topi (fun x ex => ?_)
  refine lv_i2c (v := (x.toUInt32 % 65536).toInt32) hx hb dJ1_charAt_3b067_13 rfl ?_
  exact W.zret hx hb hr (pk_nc x) (fun t ht _ => ⟨by rw [ex, nI_clamp (show i < 2 ^ 31 by omega)]; rfl, ht⟩) (fun q h => by cases h) dJ1_charAt_3b067_14
set_option maxHeartbeats 4000000 in
set_option maxRecDepth 100000 in
theorem jx_charAt (l : Launch) (sa sv : Nat) (sf : Nat → Int32) (i : Nat) (hi : i < 124) : Met l yJ0_charAt_5068e (Cond.code yJ0_charAt_5068e cJ0_charAt_5068e 2 (some .char) :: gw) (rj 3 0 0) (PZ sa sv sf [.ref sa, .int (nI i)]) (QcRead (ch1 (sf i))) 0 0 (fun _ => False) := by
  refine MZ (by decide) (Nat.le_of_ble_eq_true rfl) (fun p e s m below meth c ls hx hb hml hr hlocks hts hown hSX hl => ?_)
  have hl : lv_has ls 2 [(0, .ref sa), (1, .int (nI i))] := hl
  refine lv_aload_n hx hb dJ0_charAt_5068e_0 rfl (lv_at hl 0 rfl) ?_
  refine W.callR (rzV (As := []) (rest := []) hx hb hml hown hts hSX (j_isLatin1 l sa sv sf) ci_J0_isLatin1_aae02 rfl qm_J0_492 ⟨Nat.le_of_ble_eq_true rfl, Nat.le_of_ble_eq_true rfl⟩ ⟨Nat.le_of_ble_eq_true rfl, Nat.le_of_ble_eq_true rfl⟩ rfl hl.1 rfl (Nat.le_of_ble_eq_true rfl) dJ0_charAt_5068e_1) ?_
  refine W.eq (g2 := F0 m 4 ls [.int 1]) rfl ?_
  refine lv_if_eq (tgt := 16) hx hb dJ0_charAt_5068e_4 rfl (fun c => absurd c (by decide)) (fun _ => ?_)
  refine lv_aload_n hx hb dJ0_charAt_5068e_7 rfl (lv_at hl 0 rfl) ?_
  refine vk_getf hx hb hSX.2.2.1 va_S.rf hown (hts _ qf_J0_9) (fun _ h => h) dJ0_charAt_5068e_8 ?_
  refine lv_iload_n hx hb dJ0_charAt_5068e_11 rfl (lv_at hl 1 rfl) ?_
  refine W.callR (rzS (As := [.ref sv, .int (nI i)]) (rest := []) hx hb hml hown hts hSX (jx_charAt1 l sa sv sf i hi) ci_J1_charAt_3b067 qm_J0_495 ⟨Nat.le_of_ble_eq_true rfl, Nat.le_of_ble_eq_true rfl⟩ ⟨Nat.le_of_ble_eq_true rfl, Nat.le_of_ble_eq_true rfl⟩ rfl hl.1 rfl (Nat.le_of_ble_eq_true rfl) dJ0_charAt_5068e_12) ?_
  refine W.eq (g2 := F0 m 15 ls [.int (ch1 (sf i))]) rfl ?_
  exact W.zret hx hb hr (pk_nc _) (fun t ht _ => ⟨rfl, ht⟩) (fun q h => by cases h) dJ0_charAt_5068e_15
set_option maxHeartbeats 4000000 in
set_option maxRecDepth 100000 in
theorem n_Reader (l : Launch) (D : va_G) (k : Nat → ClassId) (sa sv : Nat) (sf : Nat → Int32) (hsf : ∀ i : Nat, i < 124 → ch1 (sf i) = iZ (kwX i)) (h : Nat) : WDS (σ := ((Nat → Nat) × (Nat → Int64))) sa sv sf l yX4_init cX4_init 5 none 4 2 925 D k [.ref h] [(h, .inr (4, [.null, .null, .int 0, .int 0, .int 0, .int 0, .int 0, .int 0, .int 0, .long 0, .int 0, .int 0]))] (fun _ => none) (fun u => ∀ j : Nat, j < 25 → u.2 j = lZ (kwC j)) (fun u => [(h, .inr (4, [.ref (u.1 0), .ref (u.1 1), .int 0, .int 0, .int 0, .int 0, .int 0, .int 0, .int 0, .long 0, .int (-1), .int (-1)])), ((u.1 0), .inl (k 0, 900, .inl (fun _ => 0))), ((u.1 1), .inl (k 2, 25, .inr (.inl u.2)))]) := by
  refine MWS (by decide) (Nat.le_of_ble_eq_true rfl) (fun p e s m below meth c ls A hx hb hml hr hlocks hin hts hown hKK hP hD hS hA hSX hRR hl => ?_)
  have hK := hKK.1
  have hl : lv_has ls 5 [(0, .ref h)] := hl
  refine lv_aload_n hx hb dX4_init_0 rfl (lv_at hl 0 rfl) ?_
  refine W.objInit hx hb hown (hts _ qm_X4_3) (hts _ qi_objectInit) (hts _ qc_objectInit) rfl (by rw [hml]; exact hl.1) rfl dX4_init_1 (Nat.le_of_ble_eq_true rfl) (Nat.le_of_ble_eq_true rfl) ?_
  refine W.eq (g2 := F0 m 4 ls []) rfl ?_
  refine lv_aload_n hx hb dX4_init_4 rfl (lv_at hl 0 rfl) ?_
  refine lv_sipush (v := 900) hx hb dX4_init_5 (by decide) ?_
  refine nwa (atype := .byte) (t := 0) (a0 := (900, .inl (fun _ => 0))) hx hb (hts _ qa_byte) rfl rfl hKK hP hD hS hA (fun _ => rfl) (by decide) (by decide +kernel) (by decide) (Nat.le_of_ble_eq_true rfl) (Nat.le_of_ble_eq_true rfl) dX4_init_8 (fun a_1 H hP hD hS => ?_)
  refine W.widen (k := 1) (n := 900) (by decide) (by decide) ?_
  refine va_putF (D := D) (ci := 4) (v := .ref a_1) (ty := (tyX4 0)) (C := RX4) (T := TX4) (N := 12) hx hb hts iX4 tyX4 tyX4_ok nmX4 hown hK hP hD hS 0 rfl rfl 0 (by decide) (hts _ qf_X4_9) (fun _ h => h) rfl hin rfl (by decide +kernel) rfl rfl (Nat.le_of_ble_eq_true rfl) dX4_init_10 (fun H locs hP hD hS => ?_)
  refine lv_aload_n hx hb dX4_init_13 rfl (lv_at hl 0 rfl) ?_
  refine lv_bipush (v := 25) hx hb dX4_init_14 (by decide) ?_
  refine nwa (atype := .long) (t := 2) (a0 := (25, .inr (.inl (fun _ => 0)))) hx hb (hts _ qa_long) rfl rfl hKK hP hD hS hA (fun _ => rfl) (by decide) (by decide +kernel) (by decide) (Nat.le_of_ble_eq_true rfl) (Nat.le_of_ble_eq_true rfl) dX4_init_16 (fun a_2 H hP hD hS => ?_)
  refine W.widen (k := 2) (n := 925) (by decide) (by decide) ?_
  refine va_putF (D := D) (ci := 4) (v := .ref a_2) (ty := (tyX4 1)) (C := RX4) (T := TX4) (N := 12) hx hb hts iX4 tyX4 tyX4_ok nmX4 hown hK hP hD hS 0 rfl rfl 1 (by decide) (hts _ qf_X4_15) (fun _ h => h) rfl hin rfl (by decide +kernel) rfl rfl (Nat.le_of_ble_eq_true rfl) dX4_init_18 (fun H locs hP hD hS => ?_)
  refine lv_aload_n hx hb dX4_init_21 rfl (lv_at hl 0 rfl) ?_
  refine lv_iconst (v := (-1)) hx hb dX4_init_22 (by decide) ?_
  refine va_put (D := D) (ci := 4) (v := .int (-1)) (ty := .int) (C := RX4) (T := TX4) (N := 12) hx hb hts iX4 tyX4 tyX4_ok nmX4 hown hK hP hD hS 0 rfl rfl 10 (bl rfl) (hts _ qf_X4_19) (fun _ h => h) rfl (by decide +kernel) rfl rfl (Nat.le_of_ble_eq_true rfl) dX4_init_23 (fun H locs hP hD hS => ?_)
  refine lv_aload_n hx hb dX4_init_26 rfl (lv_at hl 0 rfl) ?_
  refine lv_iconst (v := (-1)) hx hb dX4_init_27 (by decide) ?_
  refine va_put (D := D) (ci := 4) (v := .int (-1)) (ty := .int) (C := RX4) (T := TX4) (N := 12) hx hb hts iX4 tyX4 tyX4_ok nmX4 hown hK hP hD hS 0 rfl rfl 11 (bl rfl) (hts _ qf_X4_23) (fun _ h => h) rfl (by decide +kernel) rfl rfl (Nat.le_of_ble_eq_true rfl) dX4_init_28 (fun H locs hP hD hS => ?_)
  refine lv_lconst (v := 0) hx hb dX4_init_31 rfl ?_
  refine lv_lstore_n (lv' := [(1, .long 0), (0, .ref h)]) hx hb dX4_init_32 rfl hl (bl rfl) rfl (fun ls hl => ?_)
  refine lv_iconst (v := 0) hx hb dX4_init_33 (by decide) ?_
  refine lv_istore_n (lv' := [(3, .int 0), (1, .long 0), (0, .ref h)]) hx hb dX4_init_34 rfl hl (bl rfl) rfl (fun ls hl => ?_)
  refine lv_iconst (v := 0) hx hb dX4_init_35 (by decide) ?_
  refine lv_istore (lv' := [(4, .int 0), (3, .int 0), (1, .long 0), (0, .ref h)]) hx hb dX4_init_36 hl (bl rfl) rfl (fun ls hl => ?_)
  have HL : ∀ (r i : Nat) (cd : Int64) (m1 : Nat) (g : Nat → Int64) (H : Heap) (locs : List Loc) (ls : Array Slot), i + r = 124 → m1 ≤ 25 → m1 = knT i → cd = lZ (cdT i) → (∀ w : Nat, w < m1 → g w = lZ (kwC w)) → va_P D vwCl [(h, .inr (4, [.ref a_1, .ref a_2, .int 0, .int 0, .int 0, .int 0, .int 0, .int 0, .int 0, .long 0, .int (-1), .int (-1)])), (a_1, .inl (k 0, 900, .inl (fun _ => 0))), (a_2, .inl (k 2, 25, .inr (.inl g)))] H → va_D A [(h, .inr (4, [.ref a_1, .ref a_2, .int 0, .int 0, .int 0, .int 0, .int 0, .int 0, .int 0, .long 0, .int (-1), .int (-1)])), (a_1, .inl (k 0, 900, .inl (fun _ => 0))), (a_2, .inl (k 2, 25, .inr (.inl g)))] → va_S A s.heap H locs → lv_has ls 5 [(4, .int (nI i)), (3, .int (nI m1)), (1, .long cd), (0, .ref h)] → W p l e (rj 4 2 925) s m [.ref h].toArray below meth c H locs 2 925 (MQ below (QW (σ := ((Nat → Nat) × (Nat → Int64))) (fun _ => none) (fun u => ∀ j : Nat, j < 25 → u.2 j = lZ (kwC j)) (fun u => [(h, .inr (4, [.ref (u.1 0), .ref (u.1 1), .int 0, .int 0, .int 0, .int 0, .int 0, .int 0, .int 0, .long 0, .int (-1), .int (-1)])), ((u.1 0), .inl (k 0, 900, .inl (fun _ => 0))), ((u.1 1), .inl (k 2, 25, .inr (.inl u.2)))]) D A) [.ref h].toArray s 2 925 A) (F0 m 38 ls []) := by
    intro r
    induction r with
    | zero =>
      intro i cd m1 g H locs ls hi hm1 hm2 hc2 hg2 hP hD hS hl
      refine lv_iload hx hb dX4_init_38 (lv_at hl 0 rfl) ?_
      refine va_ldcS hx hb hown hRR dX4_init_40 ?_
      refine W.callR (rzV (As := []) (rest := [.int (nI i)]) hx hb hml hown hts ((hSX.kept hS.2.1).narrow (fun _ h => h.elim)) (j_length l sa sv sf) ci_J0_length_8abf5 rfl qm_X4_28 ⟨Nat.le_of_ble_eq_true rfl, Nat.le_of_ble_eq_true rfl⟩ ⟨Nat.le_of_ble_eq_true rfl, Nat.le_of_ble_eq_true rfl⟩ rfl hl.1 rfl (Nat.le_of_ble_eq_true rfl) dX4_init_42) ?_
      refine W.eq (g2 := F0 m 45 ls [.int 124, .int (nI i)]) rfl ?_
      refine lv_icmp_ge (tgt := 108) hx hb dX4_init_45 rfl (fun _ => ?_) (fun c => absurd (nI_le (a := 124) (b := i) (by omega) (by omega)) c)
      exact EWv hx hb hr hlocks hS (fun i => [a_1, a_2].getD i 0, g) rfl (fun j hj => hg2 j (by have h9 : i = 124 := (by omega); have h7 := kn124; rw [← h9] at h7; omega)) (hP.sub [0, 1, 2] rfl) (hD.sub [0, 1, 2] rfl rfl) dX4_init_108
    | succ r ih =>
      intro i cd m1 g H locs ls hi hm1 hm2 hc2 hg2 hP hD hS hl
      refine lv_iload hx hb dX4_init_38 (lv_at hl 0 rfl) ?_
      refine va_ldcS hx hb hown hRR dX4_init_40 ?_
      refine W.callR (rzV (As := []) (rest := [.int (nI i)]) hx hb hml hown hts ((hSX.kept hS.2.1).narrow (fun _ h => h.elim)) (j_length l sa sv sf) ci_J0_length_8abf5 rfl qm_X4_28 ⟨Nat.le_of_ble_eq_true rfl, Nat.le_of_ble_eq_true rfl⟩ ⟨Nat.le_of_ble_eq_true rfl, Nat.le_of_ble_eq_true rfl⟩ rfl hl.1 rfl (Nat.le_of_ble_eq_true rfl) dX4_init_42) ?_
      refine W.eq (g2 := F0 m 45 ls [.int 124, .int (nI i)]) rfl ?_
      refine lv_icmp_ge (tgt := 108) hx hb dX4_init_45 rfl (fun c => absurd c (nI_ge (a := i) (b := 124) (by omega) (by omega))) (fun _ => ?_)
      refine lv_iload_n hx hb dX4_init_48 rfl (lv_at hl 1 rfl) ?_
      refine lv_bipush (v := 25) hx hb dX4_init_49 (by decide) ?_
      refine lv_icmp_ge (tgt := 108) hx hb dX4_init_51 rfl (fun c_3 => ?_) (fun c_3 => ?_)
      ·
        exact EWv hx hb hr hlocks hS (fun i => [a_1, a_2].getD i 0, g) rfl (fun j hj => hg2 j (by have h9 : i = 124 := rdx_25 (by omega) (by rw [← hm2]; intro h8; exact absurd c_3 (nI_ge (a := m1) (b := 25) h8 (by decide))); have h7 := kn124; rw [← h9] at h7; omega)) (hP.sub [0, 1, 2] rfl) (hD.sub [0, 1, 2] rfl rfl) dX4_init_108
      ·
        refine va_ldcS hx hb hown hRR dX4_init_54 ?_
        refine lv_iload hx hb dX4_init_56 (lv_at hl 0 rfl) ?_
        refine W.callR (rzV (As := [.int (nI i)]) (rest := []) hx hb hml hown hts ((hSX.kept hS.2.1).narrow (fun _ h => h.elim)) (jx_charAt l sa sv sf i (by omega)) ci_J0_charAt_5068e rfl qm_X4_34 ⟨Nat.le_of_ble_eq_true rfl, Nat.le_of_ble_eq_true rfl⟩ ⟨Nat.le_of_ble_eq_true rfl, Nat.le_of_ble_eq_true rfl⟩ rfl hl.1 rfl (Nat.le_of_ble_eq_true rfl) dX4_init_58) ?_
        refine W.eq (g2 := F0 m 61 ls [.int (ch1 (sf i))]) rfl ?_
        refine lv_bipush (v := 32) hx hb dX4_init_61 (by decide) ?_
        refine lv_icmp_ne (tgt := 81) hx hb dX4_init_63 rfl (fun c_4 => ?_) (fun c_4 => ?_)
        ·
          refine lv_lload_n hx hb dX4_init_81 rfl (lv_at hl 2 rfl) ?_
          refine lv_ldc2 (own := RX4) (v := 32) hx hb hown (hts _ qk_X4_38) dX4_init_82 ?_
          refine lv_lmul hx hb dX4_init_85 ?_
          refine lv_topl (fun x_5 ex_5 => ?_)
          refine va_ldcS hx hb hown hRR dX4_init_86 ?_
          refine lv_iload hx hb dX4_init_88 (lv_at hl 0 rfl) ?_
          refine W.callR (rzV (As := [.int (nI i)]) (rest := [.long x_5]) hx hb hml hown hts ((hSX.kept hS.2.1).narrow (fun _ h => h.elim)) (jx_charAt l sa sv sf i (by omega)) ci_J0_charAt_5068e rfl qm_X4_34 ⟨Nat.le_of_ble_eq_true rfl, Nat.le_of_ble_eq_true rfl⟩ ⟨Nat.le_of_ble_eq_true rfl, Nat.le_of_ble_eq_true rfl⟩ rfl hl.1 rfl (Nat.le_of_ble_eq_true rfl) dX4_init_90) ?_
          refine W.eq (g2 := F0 m 93 ls [.int (ch1 (sf i)), .long x_5]) rfl ?_
          refine lv_i2l (v := (ch1 (sf i)).toInt64) hx hb dX4_init_93 rfl ?_
          refine lv_ladd hx hb dX4_init_94 ?_
          refine lv_topl (fun x_6 ex_6 => ?_)
          refine lv_ldc2 (own := RX4) (v := 97) hx hb hown (hts _ qk_X4_40) dX4_init_95 ?_
          refine lv_lsub hx hb dX4_init_98 ?_
          refine lv_topl (fun x_7 ex_7 => ?_)
          refine lv_lconst (v := 1) hx hb dX4_init_99 rfl ?_
          refine lv_ladd hx hb dX4_init_100 ?_
          refine lv_topl (fun x_8 ex_8 => ?_)
          refine lv_lstore_n (lv' := [(1, .long x_8), (4, .int (nI i)), (3, .int (nI m1)), (0, .ref h)]) hx hb dX4_init_101 rfl hl (bl rfl) rfl (fun ls hl => ?_)
          refine lv_iinc (v := nI (i + 1)) (lv' := [(4, .int (nI (i + 1))), (1, .long x_8), (3, .int (nI m1)), (0, .ref h)]) hx hb dX4_init_102 hl (k := 1) rfl (nI_1 i) (by decide) rfl (fun ls hl => ?_)
          refine lv_goto (tgt := 38) hx hb dX4_init_105 rfl ?_
          exact ih (i + 1) _ _ _ _ _ _ (by omega) (by omega) (rdx_no hsf (by omega) hm2 c_4).1 (by rw [ex_8, ex_7, ex_6, ex_5, hc2]; exact (rdx_no hsf (by omega) hm2 c_4).2) hg2 (hP.sub [0, 1, 2] rfl) (hD.sub [0, 1, 2] rfl rfl) hS (lv_sub hl [0, 2, 1, 3] rfl)
        ·
          refine lv_aload_n hx hb dX4_init_66 rfl (lv_at hl 3 rfl) ?_
          refine va_get (D := D) (ci := 4) (v := .ref a_2) (C := RX4) (T := TX4) (N := 12) hx hb hts iX4 hown hK hP 0 rfl rfl 1 (bl rfl) (hts _ qf_X4_15) (fun _ h => h) rfl dX4_init_67 ?_
          refine lv_iload_n hx hb dX4_init_70 rfl (lv_at hl 1 rfl) ?_
          refine lv_lload_n hx hb dX4_init_71 rfl (lv_at hl 2 rfl) ?_
          refine va_last hx hb hK hP hD hS 2 2 rfl rfl (rd_in c_3 hm1) dX4_init_72 (fun H locs hP hD hS => ?_)
          refine lv_iinc (v := nI (m1 + 1)) (lv' := [(3, .int (nI (m1 + 1))), (4, .int (nI i)), (1, .long cd), (0, .ref h)]) hx hb dX4_init_73 hl (k := 1) rfl (nI_1 m1) (by decide) rfl (fun ls hl => ?_)
          refine lv_lconst (v := 0) hx hb dX4_init_76 rfl ?_
          refine lv_lstore_n (lv' := [(1, .long 0), (3, .int (nI (m1 + 1))), (4, .int (nI i)), (0, .ref h)]) hx hb dX4_init_77 rfl hl (bl rfl) rfl (fun ls hl => ?_)
          refine lv_goto (tgt := 102) hx hb dX4_init_78 rfl ?_
          refine lv_iinc (v := nI (i + 1)) (lv' := [(4, .int (nI (i + 1))), (1, .long 0), (3, .int (nI (m1 + 1))), (0, .ref h)]) hx hb dX4_init_102 hl (k := 2) rfl (nI_1 i) (by decide) rfl (fun ls hl => ?_)
          refine lv_goto (tgt := 38) hx hb dX4_init_105 rfl ?_
          exact ih (i + 1) _ _ _ _ _ _ (by omega) (by have := rd_lt c_3 hm1; omega) (rdx_sp hsf (by omega) hm2 hc2 hg2 c_4).1 (rdx_sp hsf (by omega) hm2 hc2 hg2 c_4).2.1 (rdx_sp hsf (by omega) hm2 hc2 hg2 c_4).2.2 (hP.sub [0, 1, 2] rfl) (hD.sub [0, 1, 2] rfl rfl) hS (lv_sub hl [0, 2, 1, 3] rfl)
  exact HL 124 0 _ 0 _ _ _ _ (by omega) (by decide) rfl rfl (fun w h => absurd h (by omega)) (hP.sub [0, 1, 2] rfl) (hD.sub [0, 1, 2] rfl rfl) hS (lv_sub hl [0, 1, 2, 3] rfl)
end
