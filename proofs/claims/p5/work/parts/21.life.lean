set_option maxHeartbeats 4000000 in
set_option maxRecDepth 100000 in
theorem k_wornNext (l : Launch) (D : va_G) (k : Nat → ClassId) (hL hw1 hc hy hn1 ro cw cg cs ck : Nat) (dr st mi we tu o0 le : Int) (h hs ha hl0 : Nat) (op : Int64) (fa fl : Nat → Int32) (rga : rgI fa (-2) 420 14436) (rgl : rgI fl (-2) 400 14436) (hf hg : Nat) (fs : List Value) (f1 : fs[1]? = some (.ref hf)) (f2 : fs[2]? = some (.ref hg)) (f g : Nat → Int32) (n : Int) (hn : n ≤ 6) (hx0 : FXI f n) (ni : Int) (f4 : fs[4]? = some (.int (iZ ni))) (hni : 0 ≤ ni ∧ ni ≤ 8) (f3 : fs[3]? = some (.int (iZ n))) (hn0 : 0 ≤ n) (lw : Int) (f5 : fs[5]? = some (.int (iZ lw))) (hlw : -2147483648 ≤ lw ∧ lw < 2147483648) (wf : Nat → Int32) (wk od : Int) (hwk : 0 ≤ wk ∧ wk ≤ 400) : WD (σ := (Int × Int64 × (Nat → Int32) × (Nat → Int32))) l yX1_wornNext cX1_wornNext 8 (some .int) 3 0 0 D k [.ref hL] [(hL, .inr (1, [.ref hw1, .ref h, .ref hn1, .ref ro, .int (iZ dr), .int (iZ st), .int (iZ mi), .int (iZ we), .int (iZ tu), .int (iZ o0), .int (iZ le)])), (hw1, .inr (8, [.ref hs, .ref hc, .ref hy])), (hc, .inr (0, [.ref cw, .ref cg, .ref cs, .ref ck, .int (iZ wk), .int (iZ od)])), (cw, .inl (k 1, 401, .inl wf)), (h, .inr (3, [.ref hs, .long op, .ref ha, .ref hl0])), (ha, .inl (k 1, 14436, .inl fa)), (hl0, .inl (k 1, 14436, .inl fl)), (hs, .inr (5, fs)), (hf, .inl (k 1, 36, .inl f)), (hg, .inl (k 1, 32, .inl g))] (fun u => some (.int (iZ u.1))) (fun u => (-2147483648 ≤ u.1 ∧ u.1 < 2147483648) ∧ rgI u.2.2.1 (-2) 420 14436 ∧ rgI u.2.2.2 (-2) 400 14436) (fun u => [(hL, .inr (1, [.ref hw1, .ref h, .ref hn1, .ref ro, .int (iZ dr), .int (iZ st), .int (iZ mi), .int (iZ we), .int (iZ tu), .int (iZ o0), .int (iZ le)])), (hw1, .inr (8, [.ref hs, .ref hc, .ref hy])), (hc, .inr (0, [.ref cw, .ref cg, .ref cs, .ref ck, .int (iZ wk), .int (iZ od)])), (cw, .inl (k 1, 401, .inl wf)), (h, .inr (3, [.ref hs, .long u.2.1, .ref ha, .ref hl0])), (ha, .inl (k 1, 14436, .inl u.2.2.1)), (hl0, .inl (k 1, 14436, .inl u.2.2.2)), (hs, .inr (5, fs)), (hf, .inl (k 1, 36, .inl f)), (hg, .inl (k 1, 32, .inl g))]) := by
  refine MW (by decide) (Nat.le_of_ble_eq_true rfl) (fun p e s m below meth c ls A hx hb hml hr hlocks hin hts hown hKK hP hD hS hA hl => ?_)
  have hK := hKK.1
  have hl : lv_has ls 8 [(0, .ref hL)] := hl
  refine lv_aload_n hx hb dX1_wornNext_0 rfl (lv_at hl 0 rfl) ?_
  refine va_get (D := D) (ci := 1) (v := .ref hw1) (C := RX1) (T := TX1) (N := 11) hx hb hts iX1 hown hK hP 0 rfl rfl 0 (by decide) (hts _ qf_X1_17) (fun _ h => h) rfl dX1_wornNext_1 ?_
  refine va_get (D := D) (ci := 8) (v := .ref hc) (C := RX8) (T := TX8) (N := 3) hx hb hts iX8 hown hK hP 1 rfl rfl 1 (by decide) (hts _ qf_X1_29) (fun _ h => h) rfl dX1_wornNext_4 ?_
  refine lv_astore_n (lv' := [(1, .ref hc), (0, .ref hL)]) hx hb dX1_wornNext_7 rfl hl (by decide) rfl (fun ls hl => ?_)
  refine lv_aload_n hx hb dX1_wornNext_8 rfl (lv_at hl 0 rfl) ?_
  refine va_get (D := D) (ci := 0) (v := .int (iZ wk)) (C := RX0) (T := TX0) (N := 6) hx hb hts iX0 hown hK hP 2 rfl rfl 4 (by decide) (hts _ qf_X1_35) (fun _ h => h) rfl dX1_wornNext_9 ?_
  refine lv_iconst (v := iZ 1) hx hb dX1_wornNext_12 (by decide) ?_
  refine lv_iadd hx hb dX1_wornNext_13 ?_
  refine lv_topi (fun x_1 ex_1 => ?_)
  obtain rfl : x_1 = iZ (wk + 1) := ex_1.trans (iZ_add wk 1)
  refine lv_istore_n (lv' := [(2, .int (iZ (wk + 1))), (1, .ref hc), (0, .ref hL)]) hx hb dX1_wornNext_14 rfl hl (by decide) rfl (fun ls hl => ?_)
  refine lv_iconst (v := iZ 0) hx hb dX1_wornNext_15 (by decide) ?_
  refine lv_istore_n (lv' := [(3, .int (iZ 0)), (2, .int (iZ (wk + 1))), (1, .ref hc), (0, .ref hL)]) hx hb dX1_wornNext_16 rfl hl (by decide) rfl (fun ls hl => ?_)
  refine lv_iconst (v := iZ 0) hx hb dX1_wornNext_17 (by decide) ?_
  refine lv_istore (lv' := [(4, .int (iZ 0)), (3, .int (iZ 0)), (2, .int (iZ (wk + 1))), (1, .ref hc), (0, .ref hL)]) hx hb dX1_wornNext_18 hl (by decide) rfl (fun ls hl => ?_)
  have HL1 : ∀ (fu : Nat) (i se : Int) (op2 : Int64) (g1 : Nat → Int32) (g2 : Nat → Int32) (H : Heap) (locs : List Loc) (ls : Array Slot), (n + 1 - i) < (fu : Int) → 0 ≤ i → i ≤ n → -2147483648 ≤ se → se < 2147483648 → rgI g1 (-2) 420 14436 → rgI g2 (-2) 400 14436 → va_P D vwCl [(hL, .inr (1, [.ref hw1, .ref h, .ref hn1, .ref ro, .int (iZ dr), .int (iZ st), .int (iZ mi), .int (iZ we), .int (iZ tu), .int (iZ o0), .int (iZ le)])), (hw1, .inr (8, [.ref hs, .ref hc, .ref hy])), (hc, .inr (0, [.ref cw, .ref cg, .ref cs, .ref ck, .int (iZ wk), .int (iZ od)])), (cw, .inl (k 1, 401, .inl wf)), (h, .inr (3, [.ref hs, .long op2, .ref ha, .ref hl0])), (ha, .inl (k 1, 14436, .inl g1)), (hl0, .inl (k 1, 14436, .inl g2)), (hs, .inr (5, fs)), (hf, .inl (k 1, 36, .inl f)), (hg, .inl (k 1, 32, .inl g))] H → va_D A [(hL, .inr (1, [.ref hw1, .ref h, .ref hn1, .ref ro, .int (iZ dr), .int (iZ st), .int (iZ mi), .int (iZ we), .int (iZ tu), .int (iZ o0), .int (iZ le)])), (hw1, .inr (8, [.ref hs, .ref hc, .ref hy])), (hc, .inr (0, [.ref cw, .ref cg, .ref cs, .ref ck, .int (iZ wk), .int (iZ od)])), (cw, .inl (k 1, 401, .inl wf)), (h, .inr (3, [.ref hs, .long op2, .ref ha, .ref hl0])), (ha, .inl (k 1, 14436, .inl g1)), (hl0, .inl (k 1, 14436, .inl g2)), (hs, .inr (5, fs)), (hf, .inl (k 1, 36, .inl f)), (hg, .inl (k 1, 32, .inl g))] → va_S A s.heap H locs → lv_has ls 8 [(4, .int (iZ i)), (3, .int (iZ se)), (2, .int (iZ (wk + 1))), (1, .ref hc), (0, .ref hL)] → W p l e (rj 3 0 0) s m [.ref hL].toArray below meth c H locs 0 0 (MQ below (QW (σ := (Int × Int64 × (Nat → Int32) × (Nat → Int32))) (fun u => some (.int (iZ u.1))) (fun u => (-2147483648 ≤ u.1 ∧ u.1 < 2147483648) ∧ rgI u.2.2.1 (-2) 420 14436 ∧ rgI u.2.2.2 (-2) 400 14436) (fun u => [(hL, .inr (1, [.ref hw1, .ref h, .ref hn1, .ref ro, .int (iZ dr), .int (iZ st), .int (iZ mi), .int (iZ we), .int (iZ tu), .int (iZ o0), .int (iZ le)])), (hw1, .inr (8, [.ref hs, .ref hc, .ref hy])), (hc, .inr (0, [.ref cw, .ref cg, .ref cs, .ref ck, .int (iZ wk), .int (iZ od)])), (cw, .inl (k 1, 401, .inl wf)), (h, .inr (3, [.ref hs, .long u.2.1, .ref ha, .ref hl0])), (ha, .inl (k 1, 14436, .inl u.2.2.1)), (hl0, .inl (k 1, 14436, .inl u.2.2.2)), (hs, .inr (5, fs)), (hf, .inl (k 1, 36, .inl f)), (hg, .inl (k 1, 32, .inl g))]) D A) [.ref hL].toArray s 0 0 A) (F0 m 20 ls []) := by
    intro fu
    induction fu with
    | zero => intro i se op2 g1 g2 H locs ls hμ1 hi1 hi2 hs1 hs2 rgg1 rgg2 hP hD hS hl; exact absurd hμ1 (by omega)
    | succ fu ih1 =>
      intro i se op2 g1 g2 H locs ls hμ1 hi1 hi2 hs1 hs2 rgg1 rgg2 hP hD hS hl
      refine lv_iload hx hb dX1_wornNext_20 (lv_at hl 0 rfl) ?_
      refine lv_aload_n hx hb dX1_wornNext_22 rfl (lv_at hl 4 rfl) ?_
      refine va_get (D := D) (ci := 1) (v := .ref hw1) (C := RX1) (T := TX1) (N := 11) hx hb hts iX1 hown hK hP 0 rfl rfl 0 (by decide) (hts _ qf_X1_17) (fun _ h => h) rfl dX1_wornNext_23 ?_
      refine va_get (D := D) (ci := 8) (v := .ref hs) (C := RX8) (T := TX8) (N := 3) hx hb hts iX8 hown hK hP 1 rfl rfl 0 (by decide) (hts _ qf_X1_48) (fun _ h => h) rfl dX1_wornNext_26 ?_
      refine va_get (D := D) (ci := 5) (v := .int (iZ n)) (C := RX5) (T := TX5) (N := 7) hx hb hts iX5 hown hK hP 7 rfl rfl 3 (by decide) (hts _ qf_X1_52) (fun _ h => h) f3 dX1_wornNext_29 ?_
      refine lv_icmp_ge (tgt := 168) hx hb dX1_wornNext_32 (by decide) (fun c_2 => ?_) (fun c_2 => ?_)
      ·
        have c_2 := (zle (x := iZ n) (y := iZ i) rfl rfl ⟨by omega, by omega⟩ ⟨by omega, by omega⟩).mp c_2
        refine lv_iload_n hx hb dX1_wornNext_168 rfl (lv_at hl 1 rfl) ?_
        exact EWi hx hb hr hlocks hS (se, op2, g1, g2) rfl ⟨⟨by omega, by omega⟩, rgg1, rgg2⟩ (hP.sub [0, 1, 2, 3, 4, 5, 6, 7, 8, 9] rfl) (hD.sub [0, 1, 2, 3, 4, 5, 6, 7, 8, 9] rfl rfl) dX1_wornNext_169
      ·
        have c_2 := mt (zle (x := iZ n) (y := iZ i) rfl rfl ⟨by omega, by omega⟩ ⟨by omega, by omega⟩).mpr c_2
        refine lv_iconst (v := iZ 0) hx hb dX1_wornNext_35 (by decide) ?_
        refine lv_istore (lv' := [(5, .int (iZ 0)), (4, .int (iZ i)), (3, .int (iZ se)), (2, .int (iZ (wk + 1))), (1, .ref hc), (0, .ref hL)]) hx hb dX1_wornNext_36 hl (by decide) rfl (fun ls hl => ?_)
        refine lv_iconst (v := iZ 0) hx hb dX1_wornNext_38 (by decide) ?_
        refine lv_istore (lv' := [(6, .int (iZ 0)), (5, .int (iZ 0)), (4, .int (iZ i)), (3, .int (iZ se)), (2, .int (iZ (wk + 1))), (1, .ref hc), (0, .ref hL)]) hx hb dX1_wornNext_39 hl (by decide) rfl (fun ls hl => ?_)
        have HL2 : ∀ (fu : Nat) (j mo : Int) (op3 : Int64) (g3 : Nat → Int32) (g4 : Nat → Int32) (H : Heap) (locs : List Loc) (ls : Array Slot), (n + 1 - j) < (fu : Int) → 0 ≤ j → j ≤ n → -j ≤ mo → mo ≤ j → rgI g3 (-2) 420 14436 → rgI g4 (-2) 400 14436 → va_P D vwCl [(hL, .inr (1, [.ref hw1, .ref h, .ref hn1, .ref ro, .int (iZ dr), .int (iZ st), .int (iZ mi), .int (iZ we), .int (iZ tu), .int (iZ o0), .int (iZ le)])), (hw1, .inr (8, [.ref hs, .ref hc, .ref hy])), (hc, .inr (0, [.ref cw, .ref cg, .ref cs, .ref ck, .int (iZ wk), .int (iZ od)])), (cw, .inl (k 1, 401, .inl wf)), (h, .inr (3, [.ref hs, .long op3, .ref ha, .ref hl0])), (ha, .inl (k 1, 14436, .inl g3)), (hl0, .inl (k 1, 14436, .inl g4)), (hs, .inr (5, fs)), (hf, .inl (k 1, 36, .inl f)), (hg, .inl (k 1, 32, .inl g))] H → va_D A [(hL, .inr (1, [.ref hw1, .ref h, .ref hn1, .ref ro, .int (iZ dr), .int (iZ st), .int (iZ mi), .int (iZ we), .int (iZ tu), .int (iZ o0), .int (iZ le)])), (hw1, .inr (8, [.ref hs, .ref hc, .ref hy])), (hc, .inr (0, [.ref cw, .ref cg, .ref cs, .ref ck, .int (iZ wk), .int (iZ od)])), (cw, .inl (k 1, 401, .inl wf)), (h, .inr (3, [.ref hs, .long op3, .ref ha, .ref hl0])), (ha, .inl (k 1, 14436, .inl g3)), (hl0, .inl (k 1, 14436, .inl g4)), (hs, .inr (5, fs)), (hf, .inl (k 1, 36, .inl f)), (hg, .inl (k 1, 32, .inl g))] → va_S A s.heap H locs → lv_has ls 8 [(6, .int (iZ j)), (5, .int (iZ mo)), (4, .int (iZ i)), (3, .int (iZ se)), (2, .int (iZ (wk + 1))), (1, .ref hc), (0, .ref hL)] → W p l e (rj 3 0 0) s m [.ref hL].toArray below meth c H locs 0 0 (MQ below (QW (σ := (Int × Int64 × (Nat → Int32) × (Nat → Int32))) (fun u => some (.int (iZ u.1))) (fun u => (-2147483648 ≤ u.1 ∧ u.1 < 2147483648) ∧ rgI u.2.2.1 (-2) 420 14436 ∧ rgI u.2.2.2 (-2) 400 14436) (fun u => [(hL, .inr (1, [.ref hw1, .ref h, .ref hn1, .ref ro, .int (iZ dr), .int (iZ st), .int (iZ mi), .int (iZ we), .int (iZ tu), .int (iZ o0), .int (iZ le)])), (hw1, .inr (8, [.ref hs, .ref hc, .ref hy])), (hc, .inr (0, [.ref cw, .ref cg, .ref cs, .ref ck, .int (iZ wk), .int (iZ od)])), (cw, .inl (k 1, 401, .inl wf)), (h, .inr (3, [.ref hs, .long u.2.1, .ref ha, .ref hl0])), (ha, .inl (k 1, 14436, .inl u.2.2.1)), (hl0, .inl (k 1, 14436, .inl u.2.2.2)), (hs, .inr (5, fs)), (hf, .inl (k 1, 36, .inl f)), (hg, .inl (k 1, 32, .inl g))]) D A) [.ref hL].toArray s 0 0 A) (F0 m 41 ls []) := by
          intro fu
          induction fu with
          | zero => intro j mo op3 g3 g4 H locs ls hμ2 hj1 hj2 hmo1 hmo2 rgg3 rgg4 hP hD hS hl; exact absurd hμ2 (by omega)
          | succ fu ih2 =>
            intro j mo op3 g3 g4 H locs ls hμ2 hj1 hj2 hmo1 hmo2 rgg3 rgg4 hP hD hS hl
            refine lv_iload hx hb dX1_wornNext_41 (lv_at hl 0 rfl) ?_
            refine lv_aload_n hx hb dX1_wornNext_43 rfl (lv_at hl 6 rfl) ?_
            refine va_get (D := D) (ci := 1) (v := .ref hw1) (C := RX1) (T := TX1) (N := 11) hx hb hts iX1 hown hK hP 0 rfl rfl 0 (by decide) (hts _ qf_X1_17) (fun _ h => h) rfl dX1_wornNext_44 ?_
            refine va_get (D := D) (ci := 8) (v := .ref hs) (C := RX8) (T := TX8) (N := 3) hx hb hts iX8 hown hK hP 1 rfl rfl 0 (by decide) (hts _ qf_X1_48) (fun _ h => h) rfl dX1_wornNext_47 ?_
            refine va_get (D := D) (ci := 5) (v := .int (iZ n)) (C := RX5) (T := TX5) (N := 7) hx hb hts iX5 hown hK hP 7 rfl rfl 3 (by decide) (hts _ qf_X1_52) (fun _ h => h) f3 dX1_wornNext_50 ?_
            refine lv_icmp_ge (tgt := 115) hx hb dX1_wornNext_53 (by decide) (fun c_3 => ?_) (fun c_3 => ?_)
            ·
              have c_3 := (zle (x := iZ n) (y := iZ j) rfl rfl ⟨by omega, by omega⟩ ⟨by omega, by omega⟩).mp c_3
              refine lv_iload hx hb dX1_wornNext_115 (lv_at hl 1 rfl) ?_
              refine lv_if_gt (tgt := 139) hx hb dX1_wornNext_117 (by decide) (fun c_4 => ?_) (fun c_4 => ?_)
              ·
                have c_4 := (zlt (x := iZ 0) (y := iZ mo) rfl rfl ⟨by omega, by omega⟩ ⟨by omega, by omega⟩).mp c_4
                refine lv_iconst (v := iZ 1) hx hb dX1_wornNext_139 (by decide) ?_
                refine lv_goto (tgt := 144) hx hb dX1_wornNext_140 (by decide) ?_
                refine lv_istore (lv' := [(6, .int (iZ 1)), (5, .int (iZ mo)), (4, .int (iZ i)), (3, .int (iZ se)), (2, .int (iZ (wk + 1))), (1, .ref hc), (0, .ref hL)]) hx hb dX1_wornNext_144 hl (by decide) rfl (fun ls hl => ?_)
                refine lv_iload_n hx hb dX1_wornNext_146 rfl (lv_at hl 3 rfl) ?_
                refine lv_iload hx hb dX1_wornNext_147 (lv_at hl 0 rfl) ?_
                refine lv_if_eq (tgt := 159) hx hb dX1_wornNext_149 (by decide) (fun c => absurd c (by decide)) (fun _ => ?_)
                refine lv_iconst (v := iZ 1) hx hb dX1_wornNext_152 (by decide) ?_
                refine lv_iload hx hb dX1_wornNext_153 (lv_at hl 2 rfl) ?_
                refine lv_ishl hx hb dX1_wornNext_155 ?_
                refine lv_topi (fun x_7 ex_7 => ?_)
                obtain ⟨z_6, hz_6, hz_6a, hz_6b⟩ := i32_z x_7
                subst hz_6
                refine lv_goto (tgt := 160) hx hb dX1_wornNext_156 (by decide) ?_
                refine lv_ior hx hb dX1_wornNext_160 ?_
                refine lv_topi (fun x_9 ex_9 => ?_)
                obtain ⟨z_8, hz_8, hz_8a, hz_8b⟩ := i32_z x_9
                subst hz_8
                refine lv_istore_n (lv' := [(3, .int (iZ z_8)), (6, .int (iZ 1)), (5, .int (iZ mo)), (4, .int (iZ i)), (2, .int (iZ (wk + 1))), (1, .ref hc), (0, .ref hL)]) hx hb dX1_wornNext_161 rfl hl (by decide) rfl (fun ls hl => ?_)
                refine lv_iinc (v := iZ (i + 1)) (lv' := [(4, .int (iZ (i + 1))), (3, .int (iZ z_8)), (6, .int (iZ 1)), (5, .int (iZ mo)), (2, .int (iZ (wk + 1))), (1, .ref hc), (0, .ref hL)]) hx hb dX1_wornNext_162 hl (k := 3) rfl (iZ_add i 1) (by decide) rfl (fun ls hl => ?_)
                refine lv_goto (tgt := 20) hx hb dX1_wornNext_165 (by decide) ?_
                exact ih1 _ _ _ _ _ _ _ _ (by omega) (by omega) (by omega) (by omega) (by omega) rgg3 rgg4 (hP.sub [0, 1, 2, 3, 4, 5, 6, 7, 8, 9] rfl) (hD.sub [0, 1, 2, 3, 4, 5, 6, 7, 8, 9] rfl rfl) hS (lv_sub hl [0, 1, 4, 5, 6] rfl)
              ·
                have c_4 := mt (zlt (x := iZ 0) (y := iZ mo) rfl rfl ⟨by omega, by omega⟩ ⟨by omega, by omega⟩).mpr c_4
                refine lv_iload hx hb dX1_wornNext_120 (lv_at hl 1 rfl) ?_
                refine lv_if_ne (tgt := 143) hx hb dX1_wornNext_122 (by decide) (fun c_10 => ?_) (fun c_10 => ?_)
                ·
                  have c_10 := mt (zeq (x := iZ mo) (y := iZ 0) rfl rfl ⟨by omega, by omega⟩ ⟨by omega, by omega⟩).mpr c_10
                  refine lv_iconst (v := iZ 0) hx hb dX1_wornNext_143 (by decide) ?_
                  refine lv_istore (lv' := [(6, .int (iZ 0)), (5, .int (iZ mo)), (4, .int (iZ i)), (3, .int (iZ se)), (2, .int (iZ (wk + 1))), (1, .ref hc), (0, .ref hL)]) hx hb dX1_wornNext_144 hl (by decide) rfl (fun ls hl => ?_)
                  refine lv_iload_n hx hb dX1_wornNext_146 rfl (lv_at hl 3 rfl) ?_
                  refine lv_iload hx hb dX1_wornNext_147 (lv_at hl 0 rfl) ?_
                  refine lv_if_eq (tgt := 159) hx hb dX1_wornNext_149 (by decide) (fun _ => ?_) (fun c => absurd (by decide) c)
                  refine lv_iconst (v := iZ 0) hx hb dX1_wornNext_159 (by decide) ?_
                  refine lv_ior hx hb dX1_wornNext_160 ?_
                  refine lv_topi (fun x_13 ex_13 => ?_)
                  obtain ⟨z_12, hz_12, hz_12a, hz_12b⟩ := i32_z x_13
                  subst hz_12
                  refine lv_istore_n (lv' := [(3, .int (iZ z_12)), (6, .int (iZ 0)), (5, .int (iZ mo)), (4, .int (iZ i)), (2, .int (iZ (wk + 1))), (1, .ref hc), (0, .ref hL)]) hx hb dX1_wornNext_161 rfl hl (by decide) rfl (fun ls hl => ?_)
                  refine lv_iinc (v := iZ (i + 1)) (lv' := [(4, .int (iZ (i + 1))), (3, .int (iZ z_12)), (6, .int (iZ 0)), (5, .int (iZ mo)), (2, .int (iZ (wk + 1))), (1, .ref hc), (0, .ref hL)]) hx hb dX1_wornNext_162 hl (k := 3) rfl (iZ_add i 1) (by decide) rfl (fun ls hl => ?_)
                  refine lv_goto (tgt := 20) hx hb dX1_wornNext_165 (by decide) ?_
                  exact ih1 _ _ _ _ _ _ _ _ (by omega) (by omega) (by omega) (by omega) (by omega) rgg3 rgg4 (hP.sub [0, 1, 2, 3, 4, 5, 6, 7, 8, 9] rfl) (hD.sub [0, 1, 2, 3, 4, 5, 6, 7, 8, 9] rfl rfl) hS (lv_sub hl [0, 1, 4, 5, 6] rfl)
                ·
                  have c_10 := (zeq (x := iZ mo) (y := iZ 0) rfl rfl ⟨by omega, by omega⟩ ⟨by omega, by omega⟩).mp c_10
                  refine lv_aload_n hx hb dX1_wornNext_125 rfl (lv_at hl 5 rfl) ?_
                  refine lv_iload hx hb dX1_wornNext_126 (lv_at hl 2 rfl) ?_
                  refine lv_aload_n hx hb dX1_wornNext_128 rfl (lv_at hl 5 rfl) ?_
                  refine va_get (D := D) (ci := 0) (v := .int (iZ wk)) (C := RX0) (T := TX0) (N := 6) hx hb hts iX0 hown hK hP 2 rfl rfl 4 (by decide) (hts _ qf_X1_35) (fun _ h => h) rfl dX1_wornNext_129 ?_
                  refine CPV (As := [.int (iZ i), .int (iZ wk)]) (rest := []) hx hb hml hown hts hKK (hP.sub (ws' := [(hc, .inr (0, [.ref cw, .ref cg, .ref cs, .ref ck, .int (iZ wk), .int (iZ od)])), (cw, .inl (k 1, 401, .inl wf))]) [2, 3] rfl) (k_wornIn l D k hc cw [.ref cw, .ref cg, .ref cs, .ref ck, .int (iZ wk), .int (iZ od)] rfl wf i wk ⟨by omega, by omega⟩) ci_X0_wornIn qm_X1_63 ⟨Nat.le_of_ble_eq_true rfl, Nat.le_of_ble_eq_true rfl⟩ ⟨Nat.le_of_ble_eq_true rfl, Nat.le_of_ble_eq_true rfl⟩ 0 rfl rfl rfl hl.1 rfl (Nat.le_of_ble_eq_true rfl) dX1_wornNext_132 (fun z_14 hz_14 => ?_)
                  have hbz_14 := hz_14.2
                  refine lv_iconst (v := iZ 1) hx hb dX1_wornNext_135 (by decide) ?_
                  refine lv_icmp_ne (tgt := 143) hx hb dX1_wornNext_136 (by decide) (fun c_15 => ?_) (fun c_15 => ?_)
                  ·
                    have c_15 := mt (zeq (x := iZ z_14) (y := iZ 1) rfl rfl ⟨by omega, by omega⟩ ⟨by omega, by omega⟩).mpr c_15
                    refine lv_iconst (v := iZ 0) hx hb dX1_wornNext_143 (by decide) ?_
                    refine lv_istore (lv' := [(6, .int (iZ 0)), (5, .int (iZ mo)), (4, .int (iZ i)), (3, .int (iZ se)), (2, .int (iZ (wk + 1))), (1, .ref hc), (0, .ref hL)]) hx hb dX1_wornNext_144 hl (by decide) rfl (fun ls hl => ?_)
                    refine lv_iload_n hx hb dX1_wornNext_146 rfl (lv_at hl 3 rfl) ?_
                    refine lv_iload hx hb dX1_wornNext_147 (lv_at hl 0 rfl) ?_
                    refine lv_if_eq (tgt := 159) hx hb dX1_wornNext_149 (by decide) (fun _ => ?_) (fun c => absurd (by decide) c)
                    refine lv_iconst (v := iZ 0) hx hb dX1_wornNext_159 (by decide) ?_
                    refine lv_ior hx hb dX1_wornNext_160 ?_
                    refine lv_topi (fun x_18 ex_18 => ?_)
                    obtain ⟨z_17, hz_17, hz_17a, hz_17b⟩ := i32_z x_18
                    subst hz_17
                    refine lv_istore_n (lv' := [(3, .int (iZ z_17)), (6, .int (iZ 0)), (5, .int (iZ mo)), (4, .int (iZ i)), (2, .int (iZ (wk + 1))), (1, .ref hc), (0, .ref hL)]) hx hb dX1_wornNext_161 rfl hl (by decide) rfl (fun ls hl => ?_)
                    refine lv_iinc (v := iZ (i + 1)) (lv' := [(4, .int (iZ (i + 1))), (3, .int (iZ z_17)), (6, .int (iZ 0)), (5, .int (iZ mo)), (2, .int (iZ (wk + 1))), (1, .ref hc), (0, .ref hL)]) hx hb dX1_wornNext_162 hl (k := 3) rfl (iZ_add i 1) (by decide) rfl (fun ls hl => ?_)
                    refine lv_goto (tgt := 20) hx hb dX1_wornNext_165 (by decide) ?_
                    exact ih1 _ _ _ _ _ _ _ _ (by omega) (by omega) (by omega) (by omega) (by omega) rgg3 rgg4 (hP.sub [0, 1, 2, 3, 4, 5, 6, 7, 8, 9] rfl) (hD.sub [0, 1, 2, 3, 4, 5, 6, 7, 8, 9] rfl rfl) hS (lv_sub hl [0, 1, 4, 5, 6] rfl)
                  ·
                    have c_15 := (zeq (x := iZ z_14) (y := iZ 1) rfl rfl ⟨by omega, by omega⟩ ⟨by omega, by omega⟩).mp c_15
                    refine lv_iconst (v := iZ 1) hx hb dX1_wornNext_139 (by decide) ?_
                    refine lv_goto (tgt := 144) hx hb dX1_wornNext_140 (by decide) ?_
                    refine lv_istore (lv' := [(6, .int (iZ 1)), (5, .int (iZ mo)), (4, .int (iZ i)), (3, .int (iZ se)), (2, .int (iZ (wk + 1))), (1, .ref hc), (0, .ref hL)]) hx hb dX1_wornNext_144 hl (by decide) rfl (fun ls hl => ?_)
                    refine lv_iload_n hx hb dX1_wornNext_146 rfl (lv_at hl 3 rfl) ?_
                    refine lv_iload hx hb dX1_wornNext_147 (lv_at hl 0 rfl) ?_
                    refine lv_if_eq (tgt := 159) hx hb dX1_wornNext_149 (by decide) (fun c => absurd c (by decide)) (fun _ => ?_)
                    refine lv_iconst (v := iZ 1) hx hb dX1_wornNext_152 (by decide) ?_
                    refine lv_iload hx hb dX1_wornNext_153 (lv_at hl 2 rfl) ?_
                    refine lv_ishl hx hb dX1_wornNext_155 ?_
                    refine lv_topi (fun x_21 ex_21 => ?_)
                    obtain ⟨z_20, hz_20, hz_20a, hz_20b⟩ := i32_z x_21
                    subst hz_20
                    refine lv_goto (tgt := 160) hx hb dX1_wornNext_156 (by decide) ?_
                    refine lv_ior hx hb dX1_wornNext_160 ?_
                    refine lv_topi (fun x_23 ex_23 => ?_)
                    obtain ⟨z_22, hz_22, hz_22a, hz_22b⟩ := i32_z x_23
                    subst hz_22
                    refine lv_istore_n (lv' := [(3, .int (iZ z_22)), (6, .int (iZ 1)), (5, .int (iZ mo)), (4, .int (iZ i)), (2, .int (iZ (wk + 1))), (1, .ref hc), (0, .ref hL)]) hx hb dX1_wornNext_161 rfl hl (by decide) rfl (fun ls hl => ?_)
                    refine lv_iinc (v := iZ (i + 1)) (lv' := [(4, .int (iZ (i + 1))), (3, .int (iZ z_22)), (6, .int (iZ 1)), (5, .int (iZ mo)), (2, .int (iZ (wk + 1))), (1, .ref hc), (0, .ref hL)]) hx hb dX1_wornNext_162 hl (k := 3) rfl (iZ_add i 1) (by decide) rfl (fun ls hl => ?_)
                    refine lv_goto (tgt := 20) hx hb dX1_wornNext_165 (by decide) ?_
                    exact ih1 _ _ _ _ _ _ _ _ (by omega) (by omega) (by omega) (by omega) (by omega) rgg3 rgg4 (hP.sub [0, 1, 2, 3, 4, 5, 6, 7, 8, 9] rfl) (hD.sub [0, 1, 2, 3, 4, 5, 6, 7, 8, 9] rfl rfl) hS (lv_sub hl [0, 1, 4, 5, 6] rfl)
            ·
              have c_3 := mt (zle (x := iZ n) (y := iZ j) rfl rfl ⟨by omega, by omega⟩ ⟨by omega, by omega⟩).mpr c_3
              refine lv_iload hx hb dX1_wornNext_56 (lv_at hl 0 rfl) ?_
              refine lv_iload hx hb dX1_wornNext_58 (lv_at hl 2 rfl) ?_
              refine lv_icmp_ne (tgt := 67) hx hb dX1_wornNext_60 (by decide) (fun c_24 => ?_) (fun c_24 => ?_)
              ·
                have c_24 := mt (zeq (x := iZ j) (y := iZ i) rfl rfl ⟨by omega, by omega⟩ ⟨by omega, by omega⟩).mpr c_24
                refine lv_aload_n hx hb dX1_wornNext_67 rfl (lv_at hl 6 rfl) ?_
                refine va_get (D := D) (ci := 1) (v := .ref h) (C := RX1) (T := TX1) (N := 11) hx hb hts iX1 hown hK hP 0 rfl rfl 1 (by decide) (hts _ qf_X1_21) (fun _ h => h) rfl dX1_wornNext_68 ?_
                refine lv_iload hx hb dX1_wornNext_71 (lv_at hl 2 rfl) ?_
                refine lv_iload hx hb dX1_wornNext_73 (lv_at hl 0 rfl) ?_
                refine lv_iload_n hx hb dX1_wornNext_75 rfl (lv_at hl 4 rfl) ?_
                refine CWV (As := [.int (iZ i), .int (iZ j), .int (iZ (wk + 1))]) (rest := []) (wc := [(h, .inr (3, [.ref hs, .long op3, .ref ha, .ref hl0])), (ha, .inl (k 1, 14436, .inl g3)), (hl0, .inl (k 1, 14436, .inl g4)), (hs, .inr (5, fs)), (hf, .inl (k 1, 36, .inl f)), (hg, .inl (k 1, 32, .inl g))]) (wr := [(hL, .inr (1, [.ref hw1, .ref h, .ref hn1, .ref ro, .int (iZ dr), .int (iZ st), .int (iZ mi), .int (iZ we), .int (iZ tu), .int (iZ o0), .int (iZ le)])), (hw1, .inr (8, [.ref hs, .ref hc, .ref hy])), (hc, .inr (0, [.ref cw, .ref cg, .ref cs, .ref ck, .int (iZ wk), .int (iZ od)])), (cw, .inl (k 1, 401, .inl wf))]) hx hb hml hown hts hKK hP hD hS hA (k_seen l D k h hs ha hl0 op3 g3 g4 rgg3 rgg4 fs hf hg f1 f2 f g n hn hx0 ni f4 hni i j (wk + 1) ⟨by omega, by omega⟩ ⟨by omega, by omega⟩ ⟨by omega, by omega⟩) ci_X3_seen qm_X1_57 ⟨Nat.le_of_ble_eq_true rfl, Nat.le_of_ble_eq_true rfl⟩ ⟨Nat.le_of_ble_eq_true rfl, Nat.le_of_ble_eq_true rfl⟩ [4, 5, 6, 7, 8, 9] [0, 1, 2, 3] rfl rfl rfl rfl rfl (by decide) 0 rfl rfl rfl hl.1 rfl (Nat.le_of_ble_eq_true rfl) dX1_wornNext_76 (fun u_25 H locs hφ hP hD hS => ?_)
                obtain ⟨z_26, op_27, fa_28, fl_29⟩ := u_25
                obtain ⟨h_30, rah_30, rlh_30⟩ := hφ
                dsimp only at h_30 rah_30 rlh_30
                have hP : va_P D vwCl [(hL, .inr (1, [.ref hw1, .ref h, .ref hn1, .ref ro, .int (iZ dr), .int (iZ st), .int (iZ mi), .int (iZ we), .int (iZ tu), .int (iZ o0), .int (iZ le)])), (hw1, .inr (8, [.ref hs, .ref hc, .ref hy])), (hc, .inr (0, [.ref cw, .ref cg, .ref cs, .ref ck, .int (iZ wk), .int (iZ od)])), (cw, .inl (k 1, 401, .inl wf)), (h, .inr (3, [.ref hs, .long op_27, .ref ha, .ref hl0])), (ha, .inl (k 1, 14436, .inl fa_28)), (hl0, .inl (k 1, 14436, .inl fl_29)), (hs, .inr (5, fs)), (hf, .inl (k 1, 36, .inl f)), (hg, .inl (k 1, 32, .inl g))] H := hP
                have hD : va_D A [(hL, .inr (1, [.ref hw1, .ref h, .ref hn1, .ref ro, .int (iZ dr), .int (iZ st), .int (iZ mi), .int (iZ we), .int (iZ tu), .int (iZ o0), .int (iZ le)])), (hw1, .inr (8, [.ref hs, .ref hc, .ref hy])), (hc, .inr (0, [.ref cw, .ref cg, .ref cs, .ref ck, .int (iZ wk), .int (iZ od)])), (cw, .inl (k 1, 401, .inl wf)), (h, .inr (3, [.ref hs, .long op_27, .ref ha, .ref hl0])), (ha, .inl (k 1, 14436, .inl fa_28)), (hl0, .inl (k 1, 14436, .inl fl_29)), (hs, .inr (5, fs)), (hf, .inl (k 1, 36, .inl f)), (hg, .inl (k 1, 32, .inl g))] := hD
                refine W.eq (g2 := F0 m 79 ls [.int (iZ z_26)]) rfl ?_
                refine lv_istore (lv' := [(7, .int (iZ z_26)), (6, .int (iZ j)), (5, .int (iZ mo)), (4, .int (iZ i)), (3, .int (iZ se)), (2, .int (iZ (wk + 1))), (1, .ref hc), (0, .ref hL)]) hx hb dX1_wornNext_79 hl (by decide) rfl (fun ls hl => ?_)
                refine lv_iload hx hb dX1_wornNext_81 (lv_at hl 0 rfl) ?_
                refine lv_iconst (v := iZ (-1)) hx hb dX1_wornNext_83 (by decide) ?_
                refine lv_icmp_eq (tgt := 109) hx hb dX1_wornNext_84 (by decide) (fun c_31 => ?_) (fun c_31 => ?_)
                ·
                  have c_31 := (zeq (x := iZ z_26) (y := iZ (-1)) rfl rfl ⟨by omega, by omega⟩ ⟨by omega, by omega⟩).mp c_31
                  refine lv_iinc (v := iZ (j + 1)) (lv' := [(6, .int (iZ (j + 1))), (7, .int (iZ z_26)), (5, .int (iZ mo)), (4, .int (iZ i)), (3, .int (iZ se)), (2, .int (iZ (wk + 1))), (1, .ref hc), (0, .ref hL)]) hx hb dX1_wornNext_109 hl (k := 1) rfl (iZ_add j 1) (by decide) rfl (fun ls hl => ?_)
                  refine lv_goto (tgt := 41) hx hb dX1_wornNext_112 (by decide) ?_
                  exact ih2 _ _ _ _ _ _ _ _ (by omega) (by omega) (by omega) (by omega) (by omega) rah_30 rlh_30 (hP.sub [0, 1, 2, 3, 4, 5, 6, 7, 8, 9] rfl) (hD.sub [0, 1, 2, 3, 4, 5, 6, 7, 8, 9] rfl rfl) hS (lv_sub hl [0, 2, 3, 4, 5, 6, 7] rfl)
                ·
                  have c_31 := mt (zeq (x := iZ z_26) (y := iZ (-1)) rfl rfl ⟨by omega, by omega⟩ ⟨by omega, by omega⟩).mpr c_31
                  refine lv_iload hx hb dX1_wornNext_87 (lv_at hl 2 rfl) ?_
                  refine lv_aload_n hx hb dX1_wornNext_89 rfl (lv_at hl 6 rfl) ?_
                  refine lv_iload hx hb dX1_wornNext_90 (lv_at hl 1 rfl) ?_
                  refine lv_iload hx hb dX1_wornNext_92 (lv_at hl 0 rfl) ?_
                  refine CPV (As := [.int (iZ j), .int (iZ z_26)]) (rest := [.int (iZ mo)]) hx hb hml hown hts hKK (hP.sub (ws' := [(hc, .inr (0, [.ref cw, .ref cg, .ref cs, .ref ck, .int (iZ wk), .int (iZ od)])), (cw, .inl (k 1, 401, .inl wf))]) [2, 3] rfl) (k_wornIn l D k hc cw [.ref cw, .ref cg, .ref cs, .ref ck, .int (iZ wk), .int (iZ od)] rfl wf j z_26 ⟨by omega, by omega⟩) ci_X0_wornIn qm_X1_63 ⟨Nat.le_of_ble_eq_true rfl, Nat.le_of_ble_eq_true rfl⟩ ⟨Nat.le_of_ble_eq_true rfl, Nat.le_of_ble_eq_true rfl⟩ 0 rfl rfl rfl hl.1 rfl (Nat.le_of_ble_eq_true rfl) dX1_wornNext_94 (fun z_32 hz_32 => ?_)
                  have hbz_32 := hz_32.2
                  refine lv_iconst (v := iZ 1) hx hb dX1_wornNext_97 (by decide) ?_
                  refine lv_icmp_ne (tgt := 105) hx hb dX1_wornNext_98 (by decide) (fun c_33 => ?_) (fun c_33 => ?_)
                  ·
                    have c_33 := mt (zeq (x := iZ z_32) (y := iZ 1) rfl rfl ⟨by omega, by omega⟩ ⟨by omega, by omega⟩).mpr c_33
                    refine lv_iconst (v := iZ (-1)) hx hb dX1_wornNext_105 (by decide) ?_
                    refine lv_iadd hx hb dX1_wornNext_106 ?_
                    refine lv_topi (fun x_34 ex_34 => ?_)
                    obtain rfl : x_34 = iZ (mo + (-1)) := ex_34.trans (iZ_add mo (-1))
                    refine lv_istore (lv' := [(5, .int (iZ (mo + (-1)))), (7, .int (iZ z_26)), (6, .int (iZ j)), (4, .int (iZ i)), (3, .int (iZ se)), (2, .int (iZ (wk + 1))), (1, .ref hc), (0, .ref hL)]) hx hb dX1_wornNext_107 hl (by decide) rfl (fun ls hl => ?_)
                    refine lv_iinc (v := iZ (j + 1)) (lv' := [(6, .int (iZ (j + 1))), (5, .int (iZ (mo + (-1)))), (7, .int (iZ z_26)), (4, .int (iZ i)), (3, .int (iZ se)), (2, .int (iZ (wk + 1))), (1, .ref hc), (0, .ref hL)]) hx hb dX1_wornNext_109 hl (k := 2) rfl (iZ_add j 1) (by decide) rfl (fun ls hl => ?_)
                    refine lv_goto (tgt := 41) hx hb dX1_wornNext_112 (by decide) ?_
                    exact ih2 _ _ _ _ _ _ _ _ (by omega) (by omega) (by omega) (by omega) (by omega) rah_30 rlh_30 (hP.sub [0, 1, 2, 3, 4, 5, 6, 7, 8, 9] rfl) (hD.sub [0, 1, 2, 3, 4, 5, 6, 7, 8, 9] rfl rfl) hS (lv_sub hl [0, 1, 3, 4, 5, 6, 7] rfl)
                  ·
                    have c_33 := (zeq (x := iZ z_32) (y := iZ 1) rfl rfl ⟨by omega, by omega⟩ ⟨by omega, by omega⟩).mp c_33
                    refine lv_iconst (v := iZ 1) hx hb dX1_wornNext_101 (by decide) ?_
                    refine lv_goto (tgt := 106) hx hb dX1_wornNext_102 (by decide) ?_
                    refine lv_iadd hx hb dX1_wornNext_106 ?_
                    refine lv_topi (fun x_35 ex_35 => ?_)
                    obtain rfl : x_35 = iZ (mo + 1) := ex_35.trans (iZ_add mo 1)
                    refine lv_istore (lv' := [(5, .int (iZ (mo + 1))), (7, .int (iZ z_26)), (6, .int (iZ j)), (4, .int (iZ i)), (3, .int (iZ se)), (2, .int (iZ (wk + 1))), (1, .ref hc), (0, .ref hL)]) hx hb dX1_wornNext_107 hl (by decide) rfl (fun ls hl => ?_)
                    refine lv_iinc (v := iZ (j + 1)) (lv' := [(6, .int (iZ (j + 1))), (5, .int (iZ (mo + 1))), (7, .int (iZ z_26)), (4, .int (iZ i)), (3, .int (iZ se)), (2, .int (iZ (wk + 1))), (1, .ref hc), (0, .ref hL)]) hx hb dX1_wornNext_109 hl (k := 2) rfl (iZ_add j 1) (by decide) rfl (fun ls hl => ?_)
                    refine lv_goto (tgt := 41) hx hb dX1_wornNext_112 (by decide) ?_
                    exact ih2 _ _ _ _ _ _ _ _ (by omega) (by omega) (by omega) (by omega) (by omega) rah_30 rlh_30 (hP.sub [0, 1, 2, 3, 4, 5, 6, 7, 8, 9] rfl) (hD.sub [0, 1, 2, 3, 4, 5, 6, 7, 8, 9] rfl rfl) hS (lv_sub hl [0, 1, 3, 4, 5, 6, 7] rfl)
              ·
                have c_24 := (zeq (x := iZ j) (y := iZ i) rfl rfl ⟨by omega, by omega⟩ ⟨by omega, by omega⟩).mp c_24
                refine lv_iconst (v := iZ (-1)) hx hb dX1_wornNext_63 (by decide) ?_
                refine lv_goto (tgt := 79) hx hb dX1_wornNext_64 (by decide) ?_
                refine lv_istore (lv' := [(7, .int (iZ (-1))), (6, .int (iZ j)), (5, .int (iZ mo)), (4, .int (iZ i)), (3, .int (iZ se)), (2, .int (iZ (wk + 1))), (1, .ref hc), (0, .ref hL)]) hx hb dX1_wornNext_79 hl (by decide) rfl (fun ls hl => ?_)
                refine lv_iload hx hb dX1_wornNext_81 (lv_at hl 0 rfl) ?_
                refine lv_iconst (v := iZ (-1)) hx hb dX1_wornNext_83 (by decide) ?_
                refine lv_icmp_eq (tgt := 109) hx hb dX1_wornNext_84 (by decide) (fun _ => ?_) (fun c => absurd (by decide) c)
                refine lv_iinc (v := iZ (j + 1)) (lv' := [(6, .int (iZ (j + 1))), (7, .int (iZ (-1))), (5, .int (iZ mo)), (4, .int (iZ i)), (3, .int (iZ se)), (2, .int (iZ (wk + 1))), (1, .ref hc), (0, .ref hL)]) hx hb dX1_wornNext_109 hl (k := 1) rfl (iZ_add j 1) (by decide) rfl (fun ls hl => ?_)
                refine lv_goto (tgt := 41) hx hb dX1_wornNext_112 (by decide) ?_
                exact ih2 _ _ _ _ _ _ _ _ (by omega) (by omega) (by omega) (by omega) (by omega) rgg3 rgg4 (hP.sub [0, 1, 2, 3, 4, 5, 6, 7, 8, 9] rfl) (hD.sub [0, 1, 2, 3, 4, 5, 6, 7, 8, 9] rfl rfl) hS (lv_sub hl [0, 2, 3, 4, 5, 6, 7] rfl)
        exact HL2 8 _ _ _ _ _ _ _ _ (by omega) (by omega) (by omega) (by omega) (by omega) rgg1 rgg2 (hP.sub [0, 1, 2, 3, 4, 5, 6, 7, 8, 9] rfl) (hD.sub [0, 1, 2, 3, 4, 5, 6, 7, 8, 9] rfl rfl) hS (lv_sub hl [0, 1, 2, 3, 4, 5, 6] rfl)
  exact HL1 8 _ _ _ _ _ _ _ _ (by omega) (by omega) (by omega) (by omega) (by omega) rga rgl (hP.sub [0, 1, 2, 3, 4, 5, 6, 7, 8, 9] rfl) (hD.sub [0, 1, 2, 3, 4, 5, 6, 7, 8, 9] rfl rfl) hS (lv_sub hl [0, 1, 2, 3, 4] rfl)
set_option maxHeartbeats 4000000 in
set_option maxRecDepth 100000 in
theorem k_letPass (l : Launch) (D : va_G) (k : Nat → ClassId) (hL hw1 hc hy hn1 ro cw cg cs ck : Nat) (dr st mi we tu o0 le : Int) (h hs ha hl0 : Nat) (op : Int64) (fa fl : Nat → Int32) (rga : rgI fa (-2) 420 14436) (rgl : rgI fl (-2) 400 14436) (hf hg : Nat) (fs : List Value) (f1 : fs[1]? = some (.ref hf)) (f2 : fs[2]? = some (.ref hg)) (f g : Nat → Int32) (n : Int) (hn : n ≤ 6) (hx0 : FXI f n) (ni : Int) (f4 : fs[4]? = some (.int (iZ ni))) (hni : 0 ≤ ni ∧ ni ≤ 8) (f3 : fs[3]? = some (.int (iZ n))) (hn0 : 0 ≤ n) (lw : Int) (f5 : fs[5]? = some (.int (iZ lw))) (hlw : -2147483648 ≤ lw ∧ lw < 2147483648) (wf : Nat → Int32) (wk od : Int) (hwk : 0 ≤ wk ∧ wk ≤ 400) (a : Int) (ha0 : -2147483648 ≤ a ∧ a < 2147483648) : WD (σ := (Int × Int × (Nat → Int32) × Int64 × (Nat → Int32) × (Nat → Int32))) l yX1_letPass cX1_letPass 4 (some .int) 4 0 0 D k [.ref hL, .int (iZ a)] [(hL, .inr (1, [.ref hw1, .ref h, .ref hn1, .ref ro, .int (iZ dr), .int (iZ st), .int (iZ mi), .int (iZ we), .int (iZ tu), .int (iZ o0), .int (iZ le)])), (hw1, .inr (8, [.ref hs, .ref hc, .ref hy])), (hc, .inr (0, [.ref cw, .ref cg, .ref cs, .ref ck, .int (iZ wk), .int (iZ od)])), (cw, .inl (k 1, 401, .inl wf)), (h, .inr (3, [.ref hs, .long op, .ref ha, .ref hl0])), (ha, .inl (k 1, 14436, .inl fa)), (hl0, .inl (k 1, 14436, .inl fl)), (hs, .inr (5, fs)), (hf, .inl (k 1, 36, .inl f)), (hg, .inl (k 1, 32, .inl g))] (fun u => some (.int (iZ u.1))) (fun u => (-2147483648 ≤ u.1 ∧ u.1 < 2147483648) ∧ (wk ≤ u.2.1 ∧ u.2.1 ≤ 400) ∧ rgI u.2.2.2.2.1 (-2) 420 14436 ∧ rgI u.2.2.2.2.2 (-2) 400 14436) (fun u => [(hL, .inr (1, [.ref hw1, .ref h, .ref hn1, .ref ro, .int (iZ dr), .int (iZ st), .int (iZ mi), .int (iZ we), .int (iZ tu), .int (iZ o0), .int (iZ le)])), (hw1, .inr (8, [.ref hs, .ref hc, .ref hy])), (hc, .inr (0, [.ref cw, .ref cg, .ref cs, .ref ck, .int (iZ u.2.1), .int (iZ od)])), (cw, .inl (k 1, 401, .inl u.2.2.1)), (h, .inr (3, [.ref hs, .long u.2.2.2.1, .ref ha, .ref hl0])), (ha, .inl (k 1, 14436, .inl u.2.2.2.2.1)), (hl0, .inl (k 1, 14436, .inl u.2.2.2.2.2)), (hs, .inr (5, fs)), (hf, .inl (k 1, 36, .inl f)), (hg, .inl (k 1, 32, .inl g))]) := by
  refine MW (by decide) (Nat.le_of_ble_eq_true rfl) (fun p e s m below meth c ls A hx hb hml hr hlocks hin hts hown hKK hP hD hS hA hl => ?_)
  have hK := hKK.1
  have hl : lv_has ls 4 [(0, .ref hL), (1, .int (iZ a))] := hl
  refine lv_aload_n hx hb dX1_letPass_0 rfl (lv_at hl 0 rfl) ?_
  refine va_get (D := D) (ci := 1) (v := .ref hw1) (C := RX1) (T := TX1) (N := 11) hx hb hts iX1 hown hK hP 0 rfl rfl 0 (by decide) (hts _ qf_X1_17) (fun _ h => h) rfl dX1_letPass_1 ?_
  refine va_get (D := D) (ci := 8) (v := .ref hc) (C := RX8) (T := TX8) (N := 3) hx hb hts iX8 hown hK hP 1 rfl rfl 1 (by decide) (hts _ qf_X1_29) (fun _ h => h) rfl dX1_letPass_4 ?_
  refine lv_astore_n (lv' := [(2, .ref hc), (0, .ref hL), (1, .int (iZ a))]) hx hb dX1_letPass_7 rfl hl (by decide) rfl (fun ls hl => ?_)
  refine lv_iconst (v := iZ 0) hx hb dX1_letPass_8 (by decide) ?_
  refine lv_istore_n (lv' := [(3, .int (iZ 0)), (2, .ref hc), (0, .ref hL), (1, .int (iZ a))]) hx hb dX1_letPass_9 rfl hl (by decide) rfl (fun ls hl => ?_)
  have HL1 : ∀ (fu : Nat) (i k2 : Int) (w2 : Nat → Int32) (op2 : Int64) (g1 : Nat → Int32) (g2 : Nat → Int32) (H : Heap) (locs : List Loc) (ls : Array Slot), (401 - k2) < (fu : Int) → i = k2 - wk → wk ≤ k2 → k2 ≤ 400 → rgI g1 (-2) 420 14436 → rgI g2 (-2) 400 14436 → va_P D vwCl [(hL, .inr (1, [.ref hw1, .ref h, .ref hn1, .ref ro, .int (iZ dr), .int (iZ st), .int (iZ mi), .int (iZ we), .int (iZ tu), .int (iZ o0), .int (iZ le)])), (hw1, .inr (8, [.ref hs, .ref hc, .ref hy])), (hc, .inr (0, [.ref cw, .ref cg, .ref cs, .ref ck, .int (iZ k2), .int (iZ od)])), (cw, .inl (k 1, 401, .inl w2)), (h, .inr (3, [.ref hs, .long op2, .ref ha, .ref hl0])), (ha, .inl (k 1, 14436, .inl g1)), (hl0, .inl (k 1, 14436, .inl g2)), (hs, .inr (5, fs)), (hf, .inl (k 1, 36, .inl f)), (hg, .inl (k 1, 32, .inl g))] H → va_D A [(hL, .inr (1, [.ref hw1, .ref h, .ref hn1, .ref ro, .int (iZ dr), .int (iZ st), .int (iZ mi), .int (iZ we), .int (iZ tu), .int (iZ o0), .int (iZ le)])), (hw1, .inr (8, [.ref hs, .ref hc, .ref hy])), (hc, .inr (0, [.ref cw, .ref cg, .ref cs, .ref ck, .int (iZ k2), .int (iZ od)])), (cw, .inl (k 1, 401, .inl w2)), (h, .inr (3, [.ref hs, .long op2, .ref ha, .ref hl0])), (ha, .inl (k 1, 14436, .inl g1)), (hl0, .inl (k 1, 14436, .inl g2)), (hs, .inr (5, fs)), (hf, .inl (k 1, 36, .inl f)), (hg, .inl (k 1, 32, .inl g))] → va_S A s.heap H locs → lv_has ls 4 [(3, .int (iZ i)), (2, .ref hc), (0, .ref hL), (1, .int (iZ a))] → W p l e (rj 4 0 0) s m [.ref hL, .int (iZ a)].toArray below meth c H locs 0 0 (MQ below (QW (σ := (Int × Int × (Nat → Int32) × Int64 × (Nat → Int32) × (Nat → Int32))) (fun u => some (.int (iZ u.1))) (fun u => (-2147483648 ≤ u.1 ∧ u.1 < 2147483648) ∧ (wk ≤ u.2.1 ∧ u.2.1 ≤ 400) ∧ rgI u.2.2.2.2.1 (-2) 420 14436 ∧ rgI u.2.2.2.2.2 (-2) 400 14436) (fun u => [(hL, .inr (1, [.ref hw1, .ref h, .ref hn1, .ref ro, .int (iZ dr), .int (iZ st), .int (iZ mi), .int (iZ we), .int (iZ tu), .int (iZ o0), .int (iZ le)])), (hw1, .inr (8, [.ref hs, .ref hc, .ref hy])), (hc, .inr (0, [.ref cw, .ref cg, .ref cs, .ref ck, .int (iZ u.2.1), .int (iZ od)])), (cw, .inl (k 1, 401, .inl u.2.2.1)), (h, .inr (3, [.ref hs, .long u.2.2.2.1, .ref ha, .ref hl0])), (ha, .inl (k 1, 14436, .inl u.2.2.2.2.1)), (hl0, .inl (k 1, 14436, .inl u.2.2.2.2.2)), (hs, .inr (5, fs)), (hf, .inl (k 1, 36, .inl f)), (hg, .inl (k 1, 32, .inl g))]) D A) [.ref hL, .int (iZ a)].toArray s 0 0 A) (F0 m 10 ls []) := by
    intro fu
    induction fu with
    | zero => intro i k2 w2 op2 g1 g2 H locs ls hμ1 hi1 hk1 hk2 rgg1 rgg2 hP hD hS hl; exact absurd hμ1 (by omega)
    | succ fu ih1 =>
      intro i k2 w2 op2 g1 g2 H locs ls hμ1 hi1 hk1 hk2 rgg1 rgg2 hP hD hS hl
      refine lv_iload_n hx hb dX1_letPass_10 rfl (lv_at hl 0 rfl) ?_
      refine lv_iload_n hx hb dX1_letPass_11 rfl (lv_at hl 3 rfl) ?_
      refine lv_icmp_ge (tgt := 58) hx hb dX1_letPass_12 (by decide) (fun c_1 => ?_) (fun c_1 => ?_)
      ·
        have c_1 := (zle (x := iZ a) (y := iZ i) rfl rfl ⟨by omega, by omega⟩ ⟨by omega, by omega⟩).mp c_1
        refine lv_iload_n hx hb dX1_letPass_58 rfl (lv_at hl 3 rfl) ?_
        exact EWi hx hb hr hlocks hS (a, k2, w2, op2, g1, g2) rfl ⟨⟨by omega, by omega⟩, ⟨by omega, by omega⟩, rgg1, rgg2⟩ (hP.sub [0, 1, 2, 3, 4, 5, 6, 7, 8, 9] rfl) (hD.sub [0, 1, 2, 3, 4, 5, 6, 7, 8, 9] rfl rfl) dX1_letPass_59
      ·
        have c_1 := mt (zle (x := iZ a) (y := iZ i) rfl rfl ⟨by omega, by omega⟩ ⟨by omega, by omega⟩).mpr c_1
        refine lv_aload_n hx hb dX1_letPass_15 rfl (lv_at hl 1 rfl) ?_
        refine va_get (D := D) (ci := 0) (v := .int (iZ k2)) (C := RX0) (T := TX0) (N := 6) hx hb hts iX0 hown hK hP 2 rfl rfl 4 (by decide) (hts _ qf_X1_35) (fun _ h => h) rfl dX1_letPass_16 ?_
        refine lv_sipush (v := iZ 400) hx hb dX1_letPass_19 (by decide) ?_
        refine lv_icmp_lt (tgt := 27) hx hb dX1_letPass_22 (by decide) (fun c_2 => ?_) (fun c_2 => ?_)
        ·
          have c_2 := (zlt (x := iZ k2) (y := iZ 400) rfl rfl ⟨by omega, by omega⟩ ⟨by omega, by omega⟩).mp c_2
          refine lv_aload_n hx hb dX1_letPass_27 rfl (lv_at hl 1 rfl) ?_
          refine va_get (D := D) (ci := 0) (v := .ref cw) (C := RX0) (T := TX0) (N := 6) hx hb hts iX0 hown hK hP 2 rfl rfl 0 (by decide) (hts _ qf_X1_41) (fun _ h => h) rfl dX1_letPass_28 ?_
          refine lv_aload_n hx hb dX1_letPass_31 rfl (lv_at hl 1 rfl) ?_
          refine va_get (D := D) (ci := 0) (v := .int (iZ k2)) (C := RX0) (T := TX0) (N := 6) hx hb hts iX0 hown hK hP 2 rfl rfl 4 (by decide) (hts _ qf_X1_35) (fun _ h => h) rfl dX1_letPass_32 ?_
          refine lv_iconst (v := iZ 1) hx hb dX1_letPass_35 (by decide) ?_
          refine lv_iadd hx hb dX1_letPass_36 ?_
          refine lv_topi (fun x_3 ex_3 => ?_)
          obtain rfl : x_3 = iZ (k2 + 1) := ex_3.trans (iZ_add k2 1)
          refine lv_aload_n hx hb dX1_letPass_37 rfl (lv_at hl 2 rfl) ?_
          refine CWV (As := []) (rest := [.int (iZ (k2 + 1)), .ref cw]) (wc := [(hL, .inr (1, [.ref hw1, .ref h, .ref hn1, .ref ro, .int (iZ dr), .int (iZ st), .int (iZ mi), .int (iZ we), .int (iZ tu), .int (iZ o0), .int (iZ le)])), (hw1, .inr (8, [.ref hs, .ref hc, .ref hy])), (hc, .inr (0, [.ref cw, .ref cg, .ref cs, .ref ck, .int (iZ k2), .int (iZ od)])), (cw, .inl (k 1, 401, .inl w2)), (h, .inr (3, [.ref hs, .long op2, .ref ha, .ref hl0])), (ha, .inl (k 1, 14436, .inl g1)), (hl0, .inl (k 1, 14436, .inl g2)), (hs, .inr (5, fs)), (hf, .inl (k 1, 36, .inl f)), (hg, .inl (k 1, 32, .inl g))]) (wr := []) hx hb hml hown hts hKK hP hD hS hA (k_wornNext l D k hL hw1 hc hy hn1 ro cw cg cs ck dr st mi we tu o0 le h hs ha hl0 op2 g1 g2 rgg1 rgg2 hf hg fs f1 f2 f g n hn hx0 ni f4 hni f3 hn0 lw f5 hlw w2 k2 od ⟨by omega, by omega⟩) ci_X1_wornNext qm_X1_44 ⟨Nat.le_of_ble_eq_true rfl, Nat.le_of_ble_eq_true rfl⟩ ⟨Nat.le_of_ble_eq_true rfl, Nat.le_of_ble_eq_true rfl⟩ [0, 1, 2, 3, 4, 5, 6, 7, 8, 9] [] rfl rfl rfl rfl rfl (by decide) 0 rfl rfl rfl hl.1 rfl (Nat.le_of_ble_eq_true rfl) dX1_letPass_38 (fun u_4 H locs hφ hP hD hS => ?_)
          obtain ⟨z_5, op_6, fa_7, fl_8⟩ := u_4
          obtain ⟨h_9, rah_9, rlh_9⟩ := hφ
          dsimp only at h_9 rah_9 rlh_9
          have hP : va_P D vwCl [(hL, .inr (1, [.ref hw1, .ref h, .ref hn1, .ref ro, .int (iZ dr), .int (iZ st), .int (iZ mi), .int (iZ we), .int (iZ tu), .int (iZ o0), .int (iZ le)])), (hw1, .inr (8, [.ref hs, .ref hc, .ref hy])), (hc, .inr (0, [.ref cw, .ref cg, .ref cs, .ref ck, .int (iZ k2), .int (iZ od)])), (cw, .inl (k 1, 401, .inl w2)), (h, .inr (3, [.ref hs, .long op_6, .ref ha, .ref hl0])), (ha, .inl (k 1, 14436, .inl fa_7)), (hl0, .inl (k 1, 14436, .inl fl_8)), (hs, .inr (5, fs)), (hf, .inl (k 1, 36, .inl f)), (hg, .inl (k 1, 32, .inl g))] H := hP
          have hD : va_D A [(hL, .inr (1, [.ref hw1, .ref h, .ref hn1, .ref ro, .int (iZ dr), .int (iZ st), .int (iZ mi), .int (iZ we), .int (iZ tu), .int (iZ o0), .int (iZ le)])), (hw1, .inr (8, [.ref hs, .ref hc, .ref hy])), (hc, .inr (0, [.ref cw, .ref cg, .ref cs, .ref ck, .int (iZ k2), .int (iZ od)])), (cw, .inl (k 1, 401, .inl w2)), (h, .inr (3, [.ref hs, .long op_6, .ref ha, .ref hl0])), (ha, .inl (k 1, 14436, .inl fa_7)), (hl0, .inl (k 1, 14436, .inl fl_8)), (hs, .inr (5, fs)), (hf, .inl (k 1, 36, .inl f)), (hg, .inl (k 1, 32, .inl g))] := hD
          refine W.eq (g2 := F0 m 41 ls [.int (iZ z_5), .int (iZ (k2 + 1)), .ref cw]) rfl ?_
          refine va_iast hx hb hK hP hD hS 3 1 rfl rfl (zin (e := (k2 + 1)) (n := 401) ⟨by omega, by omega⟩ (by decide)) dX1_letPass_41 (fun H locs hP hD hS => ?_)
          obtain ⟨f_10, hf_10⟩ : ∃ gg9, gg9 = upd w2 (iZ (k2 + 1)).toNatClampNeg (iZ z_5) := ⟨_, rfl⟩
          rw [← hf_10] at hP hD
          have hP : va_P D vwCl [(hL, .inr (1, [.ref hw1, .ref h, .ref hn1, .ref ro, .int (iZ dr), .int (iZ st), .int (iZ mi), .int (iZ we), .int (iZ tu), .int (iZ o0), .int (iZ le)])), (hw1, .inr (8, [.ref hs, .ref hc, .ref hy])), (hc, .inr (0, [.ref cw, .ref cg, .ref cs, .ref ck, .int (iZ k2), .int (iZ od)])), (cw, .inl (k 1, 401, .inl f_10)), (h, .inr (3, [.ref hs, .long op_6, .ref ha, .ref hl0])), (ha, .inl (k 1, 14436, .inl fa_7)), (hl0, .inl (k 1, 14436, .inl fl_8)), (hs, .inr (5, fs)), (hf, .inl (k 1, 36, .inl f)), (hg, .inl (k 1, 32, .inl g))] H := hP
          have hD : va_D A [(hL, .inr (1, [.ref hw1, .ref h, .ref hn1, .ref ro, .int (iZ dr), .int (iZ st), .int (iZ mi), .int (iZ we), .int (iZ tu), .int (iZ o0), .int (iZ le)])), (hw1, .inr (8, [.ref hs, .ref hc, .ref hy])), (hc, .inr (0, [.ref cw, .ref cg, .ref cs, .ref ck, .int (iZ k2), .int (iZ od)])), (cw, .inl (k 1, 401, .inl f_10)), (h, .inr (3, [.ref hs, .long op_6, .ref ha, .ref hl0])), (ha, .inl (k 1, 14436, .inl fa_7)), (hl0, .inl (k 1, 14436, .inl fl_8)), (hs, .inr (5, fs)), (hf, .inl (k 1, 36, .inl f)), (hg, .inl (k 1, 32, .inl g))] := hD
          refine lv_aload_n hx hb dX1_letPass_42 rfl (lv_at hl 1 rfl) ?_
          refine lv_dup hx hb dX1_letPass_43 rfl ?_
          refine va_get (D := D) (ci := 0) (v := .int (iZ k2)) (C := RX0) (T := TX0) (N := 6) hx hb hts iX0 hown hK hP 2 rfl rfl 4 (by decide) (hts _ qf_X1_35) (fun _ h => h) rfl dX1_letPass_44 ?_
          refine lv_iconst (v := iZ 1) hx hb dX1_letPass_47 (by decide) ?_
          refine lv_iadd hx hb dX1_letPass_48 ?_
          refine lv_topi (fun x_11 ex_11 => ?_)
          obtain rfl : x_11 = iZ (k2 + 1) := ex_11.trans (iZ_add k2 1)
          refine va_put (D := D) (ci := 0) (v := .int (iZ (k2 + 1))) (ty := .int) (C := RX0) (T := TX0) (N := 6) hx hb hts iX0 tyX0 tyX0_ok nmX0 hown hK hP hD hS 2 rfl rfl 4 (by decide) (hts _ qf_X1_35) (fun _ h => h) rfl (by decide +kernel) rfl rfl (Nat.le_of_ble_eq_true rfl) dX1_letPass_49 (fun H locs hP hD hS => ?_)
          have hP : va_P D vwCl [(hL, .inr (1, [.ref hw1, .ref h, .ref hn1, .ref ro, .int (iZ dr), .int (iZ st), .int (iZ mi), .int (iZ we), .int (iZ tu), .int (iZ o0), .int (iZ le)])), (hw1, .inr (8, [.ref hs, .ref hc, .ref hy])), (hc, .inr (0, [.ref cw, .ref cg, .ref cs, .ref ck, .int (iZ (k2 + 1)), .int (iZ od)])), (cw, .inl (k 1, 401, .inl f_10)), (h, .inr (3, [.ref hs, .long op_6, .ref ha, .ref hl0])), (ha, .inl (k 1, 14436, .inl fa_7)), (hl0, .inl (k 1, 14436, .inl fl_8)), (hs, .inr (5, fs)), (hf, .inl (k 1, 36, .inl f)), (hg, .inl (k 1, 32, .inl g))] H := hP
          have hD : va_D A [(hL, .inr (1, [.ref hw1, .ref h, .ref hn1, .ref ro, .int (iZ dr), .int (iZ st), .int (iZ mi), .int (iZ we), .int (iZ tu), .int (iZ o0), .int (iZ le)])), (hw1, .inr (8, [.ref hs, .ref hc, .ref hy])), (hc, .inr (0, [.ref cw, .ref cg, .ref cs, .ref ck, .int (iZ (k2 + 1)), .int (iZ od)])), (cw, .inl (k 1, 401, .inl f_10)), (h, .inr (3, [.ref hs, .long op_6, .ref ha, .ref hl0])), (ha, .inl (k 1, 14436, .inl fa_7)), (hl0, .inl (k 1, 14436, .inl fl_8)), (hs, .inr (5, fs)), (hf, .inl (k 1, 36, .inl f)), (hg, .inl (k 1, 32, .inl g))] := hD
          refine lv_iinc (v := iZ (i + 1)) (lv' := [(3, .int (iZ (i + 1))), (2, .ref hc), (0, .ref hL), (1, .int (iZ a))]) hx hb dX1_letPass_52 hl (k := 0) rfl (iZ_add i 1) (by decide) rfl (fun ls hl => ?_)
          refine lv_goto (tgt := 10) hx hb dX1_letPass_55 (by decide) ?_
          exact ih1 _ _ _ _ _ _ _ _ _ (by omega) (by omega) (by omega) (by omega) rah_9 rlh_9 (hP.sub [0, 1, 2, 3, 4, 5, 6, 7, 8, 9] rfl) (hD.sub [0, 1, 2, 3, 4, 5, 6, 7, 8, 9] rfl rfl) hS (lv_sub hl [0, 1, 2, 3] rfl)
        ·
          have c_2 := mt (zlt (x := iZ k2) (y := iZ 400) rfl rfl ⟨by omega, by omega⟩ ⟨by omega, by omega⟩).mpr c_2
          refine lv_iload_n hx hb dX1_letPass_25 rfl (lv_at hl 0 rfl) ?_
          exact EWi hx hb hr hlocks hS (i, k2, w2, op2, g1, g2) rfl ⟨⟨by omega, by omega⟩, ⟨by omega, by omega⟩, rgg1, rgg2⟩ (hP.sub [0, 1, 2, 3, 4, 5, 6, 7, 8, 9] rfl) (hD.sub [0, 1, 2, 3, 4, 5, 6, 7, 8, 9] rfl rfl) dX1_letPass_26
  exact HL1 402 _ _ _ _ _ _ _ _ _ (by omega) (by omega) (by omega) (by omega) rga rgl (hP.sub [0, 1, 2, 3, 4, 5, 6, 7, 8, 9] rfl) (hD.sub [0, 1, 2, 3, 4, 5, 6, 7, 8, 9] rfl rfl) hS (lv_sub hl [0, 1, 2, 3] rfl)
