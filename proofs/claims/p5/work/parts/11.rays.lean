set_option maxHeartbeats 4000000 in
set_option maxRecDepth 100000 in
theorem k_compare (l : Launch) (D : va_G) (k : Nat → ClassId) (a b : Int) (ha : -2147483648 ≤ a ∧ a < 2147483648) (hb0 : -2147483648 ≤ b ∧ b < 2147483648) : RP l yJ6_compare_7cf53 cJ6_compare_7cf53 2 (some .int) 0 D k [.int (iZ a), .int (iZ b)] [] (fun z => (z = -1 ∧ a < b) ∨ (z = 0 ∧ a = b) ∨ (z = 1 ∧ b < a)) := by
  refine MRP (by decide) (Nat.le_of_ble_eq_true rfl) (fun p e s m below meth c ls hx hb hml hr hlocks hts hown hKK hP hl => ?_)
  have hK := hKK.1
  have hl : lv_has ls 2 [(0, .int (iZ a)), (1, .int (iZ b))] := hl
  refine lv_iload_n hx hb dJ6_compare_7cf53_0 rfl (lv_at hl 0 rfl) ?_
  refine lv_iload_n hx hb dJ6_compare_7cf53_1 rfl (lv_at hl 1 rfl) ?_
  refine lv_icmp_ge (tgt := 9) hx hb dJ6_compare_7cf53_2 (by decide) (fun c_1 => ?_) (fun c_1 => ?_)
  ·
    have c_1 := (zle (x := iZ b) (y := iZ a) rfl rfl ⟨by omega, by omega⟩ ⟨by omega, by omega⟩).mp c_1
    refine lv_iload_n hx hb dJ6_compare_7cf53_9 rfl (lv_at hl 0 rfl) ?_
    refine lv_iload_n hx hb dJ6_compare_7cf53_10 rfl (lv_at hl 1 rfl) ?_
    refine lv_icmp_ne (tgt := 18) hx hb dJ6_compare_7cf53_11 (by decide) (fun c_2 => ?_) (fun c_2 => ?_)
    ·
      have c_2 := mt (zeq (x := iZ a) (y := iZ b) rfl rfl ⟨by omega, by omega⟩ ⟨by omega, by omega⟩).mpr c_2
      refine lv_iconst (v := iZ 1) hx hb dJ6_compare_7cf53_18 (by decide) ?_
      exact EPi hx hb hr hlocks (by omega) dJ6_compare_7cf53_19
    ·
      have c_2 := (zeq (x := iZ a) (y := iZ b) rfl rfl ⟨by omega, by omega⟩ ⟨by omega, by omega⟩).mp c_2
      refine lv_iconst (v := iZ 0) hx hb dJ6_compare_7cf53_14 (by decide) ?_
      refine lv_goto (tgt := 19) hx hb dJ6_compare_7cf53_15 (by decide) ?_
      exact EPi hx hb hr hlocks (by omega) dJ6_compare_7cf53_19
  ·
    have c_1 := mt (zle (x := iZ b) (y := iZ a) rfl rfl ⟨by omega, by omega⟩ ⟨by omega, by omega⟩).mpr c_1
    refine lv_iconst (v := iZ (-1)) hx hb dJ6_compare_7cf53_5 (by decide) ?_
    refine lv_goto (tgt := 19) hx hb dJ6_compare_7cf53_6 (by decide) ?_
    exact EPi hx hb hr hlocks (by omega) dJ6_compare_7cf53_19
set_option maxHeartbeats 4000000 in
set_option maxRecDepth 100000 in
theorem k_openedRow (l : Launch) (D : va_G) (k : Nat → ClassId) (h hs ha hl0 : Nat) (op : Int64) (fa fl : Nat → Int32) (rga : rgI fa (-2) 420 14436) (rgl : rgI fl (-2) 400 14436) (a b : Int) (ha0 : 0 ≤ a ∧ a < 6) (hb0 : 0 ≤ b ∧ b < 6) : WD (σ := (Int × Int64 × (Nat → Int32) × (Nat → Int32))) l yX3_openedRow cX3_openedRow 6 (some .int) 0 0 0 D k [.ref h, .int (iZ a), .int (iZ b)] [(h, .inr (3, [.ref hs, .long op, .ref ha, .ref hl0])), (ha, .inl (k 1, 14436, .inl fa)), (hl0, .inl (k 1, 14436, .inl fl))] (fun u => some (.int (iZ u.1))) (fun u => u.1 = ((a * 6) + b) * 401 ∧ rgI u.2.2.1 (-2) 420 14436 ∧ rgI u.2.2.2 (-2) 400 14436) (fun u => [(h, .inr (3, [.ref hs, .long u.2.1, .ref ha, .ref hl0])), (ha, .inl (k 1, 14436, .inl u.2.2.1)), (hl0, .inl (k 1, 14436, .inl u.2.2.2))]) := by
  refine MW (by decide) (Nat.le_of_ble_eq_true rfl) (fun p e s m below meth c ls A hx hb hml hr hlocks hin hts hown hKK hP hD hS hA hl => ?_)
  have hK := hKK.1
  have hl : lv_has ls 6 [(0, .ref h), (1, .int (iZ a)), (2, .int (iZ b))] := hl
  refine lv_iload_n hx hb dX3_openedRow_0 rfl (lv_at hl 1 rfl) ?_
  refine lv_bipush (v := iZ 6) hx hb dX3_openedRow_1 (by decide) ?_
  refine lv_imul hx hb dX3_openedRow_3 ?_
  refine lv_topi (fun x_1 ex_1 => ?_)
  obtain rfl : x_1 = iZ (a * 6) := ex_1.trans (iZ_mul a 6)
  refine lv_iload_n hx hb dX3_openedRow_4 rfl (lv_at hl 2 rfl) ?_
  refine lv_iadd hx hb dX3_openedRow_5 ?_
  refine lv_topi (fun x_2 ex_2 => ?_)
  obtain rfl : x_2 = iZ ((a * 6) + b) := ex_2.trans (iZ_add (a * 6) b)
  refine lv_istore_n (lv' := [(3, .int (iZ ((a * 6) + b))), (0, .ref h), (1, .int (iZ a)), (2, .int (iZ b))]) hx hb dX3_openedRow_6 rfl hl (by decide) rfl (fun ls hl => ?_)
  refine lv_iload_n hx hb dX3_openedRow_7 rfl (lv_at hl 0 rfl) ?_
  refine lv_sipush (v := iZ 401) hx hb dX3_openedRow_8 (by decide) ?_
  refine lv_imul hx hb dX3_openedRow_11 ?_
  refine lv_topi (fun x_3 ex_3 => ?_)
  obtain rfl : x_3 = iZ (((a * 6) + b) * 401) := ex_3.trans (iZ_mul ((a * 6) + b) 401)
  refine lv_istore (lv' := [(4, .int (iZ (((a * 6) + b) * 401))), (3, .int (iZ ((a * 6) + b))), (0, .ref h), (1, .int (iZ a)), (2, .int (iZ b))]) hx hb dX3_openedRow_12 hl (by decide) rfl (fun ls hl => ?_)
  refine lv_aload_n hx hb dX3_openedRow_14 rfl (lv_at hl 2 rfl) ?_
  refine va_get (D := D) (ci := 3) (v := .ref ha) (C := RX3) (T := TX3) (N := 4) hx hb hts iX3 hown hK hP 0 rfl rfl 2 (by decide) (hts _ qf_X3_19) (fun _ h => h) rfl dX3_openedRow_15 ?_
  refine lv_ifnull hx hb dX3_openedRow_18 ?_
  refine lv_aload_n hx hb dX3_openedRow_21 rfl (lv_at hl 2 rfl) ?_
  refine va_get (D := D) (ci := 3) (v := .ref hl0) (C := RX3) (T := TX3) (N := 4) hx hb hts iX3 hown hK hP 0 rfl rfl 3 (by decide) (hts _ qf_X3_23) (fun _ h => h) rfl dX3_openedRow_22 ?_
  refine lv_ifnonnull (tgt := 46) hx hb dX3_openedRow_25 (by decide) ?_
  refine lv_aload_n hx hb dX3_openedRow_46 rfl (lv_at hl 2 rfl) ?_
  refine va_get (D := D) (ci := 3) (v := .long op) (C := RX3) (T := TX3) (N := 4) hx hb hts iX3 hown hK hP 0 rfl rfl 1 (by decide) (hts _ qf_X3_15) (fun _ h => h) rfl dX3_openedRow_47 ?_
  refine lv_iload_n hx hb dX3_openedRow_50 rfl (lv_at hl 1 rfl) ?_
  refine lv_lshr (v := _) hx hb dX3_openedRow_51 rfl ?_
  refine lv_topl (fun y_4 ey_4 => ?_)
  refine lv_lconst (v := 1) hx hb dX3_openedRow_52 rfl ?_
  refine lv_land hx hb dX3_openedRow_53 ?_
  refine lv_topl (fun y_5 ey_5 => ?_)
  refine lv_lconst (v := 0) hx hb dX3_openedRow_54 rfl ?_
  refine W.lcmp hx hb dX3_openedRow_55 ?_
  refine lv_if_ne (tgt := 110) hx hb dX3_openedRow_56 (by decide) (fun c_6 => ?_) (fun c_6 => ?_)
  ·
    refine lv_iload hx hb dX3_openedRow_110 (lv_at hl 0 rfl) ?_
    exact EWi hx hb hr hlocks hS ((((a * 6) + b) * 401), op, fa, fl) rfl ⟨rfl, rga, rgl⟩ (hP.sub [0, 1, 2] rfl) (hD.sub [0, 1, 2] rfl rfl) dX3_openedRow_112
  ·
    refine lv_aload_n hx hb dX3_openedRow_59 rfl (lv_at hl 2 rfl) ?_
    refine lv_dup hx hb dX3_openedRow_60 rfl ?_
    refine va_get (D := D) (ci := 3) (v := .long op) (C := RX3) (T := TX3) (N := 4) hx hb hts iX3 hown hK hP 0 rfl rfl 1 (by decide) (hts _ qf_X3_15) (fun _ h => h) rfl dX3_openedRow_61 ?_
    refine lv_lconst (v := 1) hx hb dX3_openedRow_64 rfl ?_
    refine lv_iload_n hx hb dX3_openedRow_65 rfl (lv_at hl 1 rfl) ?_
    refine lv_lshl (v := _) hx hb dX3_openedRow_66 rfl ?_
    refine lv_topl (fun y_7 ey_7 => ?_)
    refine lv_lor hx hb dX3_openedRow_67 ?_
    refine lv_topl (fun y_8 ey_8 => ?_)
    refine va_put (D := D) (ci := 3) (v := .long y_8) (ty := .long) (C := RX3) (T := TX3) (N := 4) hx hb hts iX3 tyX3 tyX3_ok nmX3 hown hK hP hD hS 0 rfl rfl 1 (by decide) (hts _ qf_X3_15) (fun _ h => h) rfl (by decide +kernel) rfl rfl (Nat.le_of_ble_eq_true rfl) dX3_openedRow_68 (fun H locs hP hD hS => ?_)
    have hP : va_P D vwCl [(h, .inr (3, [.ref hs, .long y_8, .ref ha, .ref hl0])), (ha, .inl (k 1, 14436, .inl fa)), (hl0, .inl (k 1, 14436, .inl fl))] H := hP
    have hD : va_D A [(h, .inr (3, [.ref hs, .long y_8, .ref ha, .ref hl0])), (ha, .inl (k 1, 14436, .inl fa)), (hl0, .inl (k 1, 14436, .inl fl))] := hD
    refine lv_iload hx hb dX3_openedRow_71 (lv_at hl 0 rfl) ?_
    refine lv_istore (lv' := [(5, .int (iZ (((a * 6) + b) * 401))), (4, .int (iZ (((a * 6) + b) * 401))), (3, .int (iZ ((a * 6) + b))), (0, .ref h), (1, .int (iZ a)), (2, .int (iZ b))]) hx hb dX3_openedRow_73 hl (by decide) rfl (fun ls hl => ?_)
    have HL1 : ∀ (fu : Nat) (i : Int) (g1 g2 : Nat → Int32) (H : Heap) (locs : List Loc) (ls : Array Slot), ((((a * 6) + b) * 401) + 402 - i) < (fu : Int) → (((a * 6) + b) * 401) ≤ i → i ≤ (((a * 6) + b) * 401) + 401 → rgI g1 (-2) 420 14436 → rgI g2 (-2) 400 14436 → va_P D vwCl [(h, .inr (3, [.ref hs, .long y_8, .ref ha, .ref hl0])), (ha, .inl (k 1, 14436, .inl g1)), (hl0, .inl (k 1, 14436, .inl g2))] H → va_D A [(h, .inr (3, [.ref hs, .long y_8, .ref ha, .ref hl0])), (ha, .inl (k 1, 14436, .inl g1)), (hl0, .inl (k 1, 14436, .inl g2))] → va_S A s.heap H locs → lv_has ls 6 [(5, .int (iZ i)), (4, .int (iZ (((a * 6) + b) * 401))), (3, .int (iZ ((a * 6) + b))), (0, .ref h), (1, .int (iZ a)), (2, .int (iZ b))] → W p l e (rj 0 0 0) s m [.ref h, .int (iZ a), .int (iZ b)].toArray below meth c H locs 0 0 (MQ below (QW (σ := (Int × Int64 × (Nat → Int32) × (Nat → Int32))) (fun u => some (.int (iZ u.1))) (fun u => u.1 = ((a * 6) + b) * 401 ∧ rgI u.2.2.1 (-2) 420 14436 ∧ rgI u.2.2.2 (-2) 400 14436) (fun u => [(h, .inr (3, [.ref hs, .long u.2.1, .ref ha, .ref hl0])), (ha, .inl (k 1, 14436, .inl u.2.2.1)), (hl0, .inl (k 1, 14436, .inl u.2.2.2))]) D A) [.ref h, .int (iZ a), .int (iZ b)].toArray s 0 0 A) (F0 m 75 ls []) := by
      intro fu
      induction fu with
      | zero => intro i g1 g2 H locs ls hμ1 hi1 hi2 rg1 rg2 hP hD hS hl; exact absurd hμ1 (by omega)
      | succ fu ih1 =>
        intro i g1 g2 H locs ls hμ1 hi1 hi2 rg1 rg2 hP hD hS hl
        refine lv_iload hx hb dX3_openedRow_75 (lv_at hl 0 rfl) ?_
        refine lv_iload hx hb dX3_openedRow_77 (lv_at hl 1 rfl) ?_
        refine lv_sipush (v := iZ 401) hx hb dX3_openedRow_79 (by decide) ?_
        refine lv_iadd hx hb dX3_openedRow_82 ?_
        refine lv_topi (fun x_9 ex_9 => ?_)
        obtain rfl : x_9 = iZ ((((a * 6) + b) * 401) + 401) := ex_9.trans (iZ_add (((a * 6) + b) * 401) 401)
        refine lv_icmp_ge (tgt := 110) hx hb dX3_openedRow_83 (by decide) (fun c_10 => ?_) (fun c_10 => ?_)
        ·
          have c_10 := (zle (x := iZ ((((a * 6) + b) * 401) + 401)) (y := iZ i) rfl rfl ⟨by omega, by omega⟩ ⟨by omega, by omega⟩).mp c_10
          refine lv_iload hx hb dX3_openedRow_110 (lv_at hl 1 rfl) ?_
          exact EWi hx hb hr hlocks hS ((((a * 6) + b) * 401), y_8, g1, g2) rfl ⟨rfl, rg1, rg2⟩ (hP.sub [0, 1, 2] rfl) (hD.sub [0, 1, 2] rfl rfl) dX3_openedRow_112
        ·
          have c_10 := mt (zle (x := iZ ((((a * 6) + b) * 401) + 401)) (y := iZ i) rfl rfl ⟨by omega, by omega⟩ ⟨by omega, by omega⟩).mpr c_10
          refine lv_aload_n hx hb dX3_openedRow_86 rfl (lv_at hl 3 rfl) ?_
          refine va_get (D := D) (ci := 3) (v := .ref ha) (C := RX3) (T := TX3) (N := 4) hx hb hts iX3 hown hK hP 0 rfl rfl 2 (by decide) (hts _ qf_X3_19) (fun _ h => h) rfl dX3_openedRow_87 ?_
          refine lv_iload hx hb dX3_openedRow_90 (lv_at hl 0 rfl) ?_
          refine lv_bipush (v := iZ (-2)) hx hb dX3_openedRow_92 (by decide) ?_
          refine va_iast hx hb hK hP hD hS 1 1 rfl rfl (zin (e := i) (n := 14436) ⟨by omega, by omega⟩ (by decide)) dX3_openedRow_94 (fun H locs hP hD hS => ?_)
          obtain ⟨f_11, hf_11⟩ : ∃ gg9, gg9 = upd g1 (iZ i).toNatClampNeg (iZ (-2)) := ⟨_, rfl⟩
          rw [← hf_11] at hP hD
          have rgf_11 := rg_upd rg1 hf_11 (by omega) ⟨by omega, by omega⟩ ⟨by omega, by omega⟩
          have hP : va_P D vwCl [(h, .inr (3, [.ref hs, .long y_8, .ref ha, .ref hl0])), (ha, .inl (k 1, 14436, .inl f_11)), (hl0, .inl (k 1, 14436, .inl g2))] H := hP
          have hD : va_D A [(h, .inr (3, [.ref hs, .long y_8, .ref ha, .ref hl0])), (ha, .inl (k 1, 14436, .inl f_11)), (hl0, .inl (k 1, 14436, .inl g2))] := hD
          refine lv_aload_n hx hb dX3_openedRow_95 rfl (lv_at hl 3 rfl) ?_
          refine va_get (D := D) (ci := 3) (v := .ref hl0) (C := RX3) (T := TX3) (N := 4) hx hb hts iX3 hown hK hP 0 rfl rfl 3 (by decide) (hts _ qf_X3_23) (fun _ h => h) rfl dX3_openedRow_96 ?_
          refine lv_iload hx hb dX3_openedRow_99 (lv_at hl 0 rfl) ?_
          refine lv_bipush (v := iZ (-2)) hx hb dX3_openedRow_101 (by decide) ?_
          refine va_iast hx hb hK hP hD hS 2 1 rfl rfl (zin (e := i) (n := 14436) ⟨by omega, by omega⟩ (by decide)) dX3_openedRow_103 (fun H locs hP hD hS => ?_)
          obtain ⟨f_12, hf_12⟩ : ∃ gg9, gg9 = upd g2 (iZ i).toNatClampNeg (iZ (-2)) := ⟨_, rfl⟩
          rw [← hf_12] at hP hD
          have rgf_12 := rg_upd rg2 hf_12 (by omega) ⟨by omega, by omega⟩ ⟨by omega, by omega⟩
          have hP : va_P D vwCl [(h, .inr (3, [.ref hs, .long y_8, .ref ha, .ref hl0])), (ha, .inl (k 1, 14436, .inl f_11)), (hl0, .inl (k 1, 14436, .inl f_12))] H := hP
          have hD : va_D A [(h, .inr (3, [.ref hs, .long y_8, .ref ha, .ref hl0])), (ha, .inl (k 1, 14436, .inl f_11)), (hl0, .inl (k 1, 14436, .inl f_12))] := hD
          refine lv_iinc (v := iZ (i + 1)) (lv' := [(5, .int (iZ (i + 1))), (4, .int (iZ (((a * 6) + b) * 401))), (3, .int (iZ ((a * 6) + b))), (0, .ref h), (1, .int (iZ a)), (2, .int (iZ b))]) hx hb dX3_openedRow_104 hl (k := 0) rfl (iZ_add i 1) (by decide) rfl (fun ls hl => ?_)
          refine lv_goto (tgt := 75) hx hb dX3_openedRow_107 (by decide) ?_
          exact ih1 (i + 1) _ _ _ _ _ (by omega) (by omega) (by omega) rgf_11 rgf_12 (hP.sub [0, 1, 2] rfl) (hD.sub [0, 1, 2] rfl rfl) hS (lv_sub hl [0, 1, 2, 3, 4, 5] rfl)
    exact HL1 403 (((a * 6) + b) * 401) _ _ _ _ _ (by omega) (by omega) (by omega) rga rgl (hP.sub [0, 1, 2] rfl) (hD.sub [0, 1, 2] rfl rfl) hS (lv_sub hl [0, 1, 2, 3, 4, 5] rfl)
theorem bz_01 (P : Prop) : bz P = 0 ∨ bz P = 1 := by
  by_cases h : P
  · exact Or.inr (bz_t h)
  · exact Or.inl (bz_f h)
set_option maxHeartbeats 4000000 in
set_option maxRecDepth 100000 in
theorem k_arrival (l : Launch) (D : va_G) (k : Nat → ClassId) (h hs ha hl0 : Nat) (op : Int64) (fa fl : Nat → Int32) (rga : rgI fa (-2) 420 14436) (rgl : rgI fl (-2) 400 14436) (fs : List Value) (hf hg : Nat) (f1 : fs[1]? = some (.ref hf)) (f2 : fs[2]? = some (.ref hg)) (f g : Nat → Int32) (n : Int) (hn : n ≤ 6) (hx0 : FXI f n) (ni : Int) (f4 : fs[4]? = some (.int (iZ ni))) (hni : 0 ≤ ni ∧ ni ≤ 8) (a w b : Int) (ha0 : 0 ≤ a ∧ a < n) (hb0 : 0 ≤ b ∧ b < n) (hw : -2147483648 ≤ w ∧ w < 2147483648) : WD (σ := (Int × Int64 × (Nat → Int32) × (Nat → Int32))) l yX3_arrival cX3_arrival 7 (some .int) 1 0 0 D k [.ref h, .int (iZ a), .int (iZ w), .int (iZ b)] [(h, .inr (3, [.ref hs, .long op, .ref ha, .ref hl0])), (ha, .inl (k 1, 14436, .inl fa)), (hl0, .inl (k 1, 14436, .inl fl)), (hs, .inr (5, fs)), (hf, .inl (k 1, 36, .inl f)), (hg, .inl (k 1, 32, .inl g))] (fun u => some (.int (iZ u.1))) (fun u => (-1 ≤ u.1 ∧ u.1 ≤ 420) ∧ rgI u.2.2.1 (-2) 420 14436 ∧ rgI u.2.2.2 (-2) 400 14436) (fun u => [(h, .inr (3, [.ref hs, .long u.2.1, .ref ha, .ref hl0])), (ha, .inl (k 1, 14436, .inl u.2.2.1)), (hl0, .inl (k 1, 14436, .inl u.2.2.2)), (hs, .inr (5, fs)), (hf, .inl (k 1, 36, .inl f)), (hg, .inl (k 1, 32, .inl g))]) := by
  refine MW (by decide) (Nat.le_of_ble_eq_true rfl) (fun p e s m below meth c ls A hx hb hml hr hlocks hin hts hown hKK hP hD hS hA hl => ?_)
  have hK := hKK.1
  have hl : lv_has ls 7 [(0, .ref h), (1, .int (iZ a)), (2, .int (iZ w)), (3, .int (iZ b))] := hl
  refine lv_iload_n hx hb dX3_arrival_0 rfl (lv_at hl 2 rfl) ?_
  refine lv_if_lt (tgt := 11) hx hb dX3_arrival_1 (by decide) (fun c_1 => ?_) (fun c_1 => ?_)
  ·
    have c_1 := (zlt (x := iZ w) (y := iZ 0) rfl rfl ⟨by omega, by omega⟩ ⟨by omega, by omega⟩).mp c_1
    refine lv_iconst (v := iZ (-1)) hx hb dX3_arrival_11 (by decide) ?_
    exact EWi hx hb hr hlocks hS ((-1), op, fa, fl) rfl ⟨⟨by omega, by omega⟩, rga, rgl⟩ (hP.sub [0, 1, 2, 3, 4, 5] rfl) (hD.sub [0, 1, 2, 3, 4, 5] rfl rfl) dX3_arrival_12
  ·
    have c_1 := mt (zlt (x := iZ w) (y := iZ 0) rfl rfl ⟨by omega, by omega⟩ ⟨by omega, by omega⟩).mpr c_1
    refine lv_iload_n hx hb dX3_arrival_4 rfl (lv_at hl 2 rfl) ?_
    refine lv_sipush (v := iZ 400) hx hb dX3_arrival_5 (by decide) ?_
    refine lv_icmp_le (tgt := 13) hx hb dX3_arrival_8 (by decide) (fun c_2 => ?_) (fun c_2 => ?_)
    ·
      have c_2 := (zle (x := iZ w) (y := iZ 400) rfl rfl ⟨by omega, by omega⟩ ⟨by omega, by omega⟩).mp c_2
      refine lv_iload_n hx hb dX3_arrival_13 rfl (lv_at hl 1 rfl) ?_
      refine lv_iload_n hx hb dX3_arrival_14 rfl (lv_at hl 3 rfl) ?_
      refine lv_icmp_ne (tgt := 20) hx hb dX3_arrival_15 (by decide) (fun c_3 => ?_) (fun c_3 => ?_)
      ·
        have c_3 := mt (zeq (x := iZ a) (y := iZ b) rfl rfl ⟨by omega, by omega⟩ ⟨by omega, by omega⟩).mpr c_3
        refine lv_aload_n hx hb dX3_arrival_20 rfl (lv_at hl 0 rfl) ?_
        refine lv_iload_n hx hb dX3_arrival_21 rfl (lv_at hl 1 rfl) ?_
        refine lv_iload_n hx hb dX3_arrival_22 rfl (lv_at hl 3 rfl) ?_
        refine CWV (As := [.int (iZ a), .int (iZ b)]) (rest := []) (wc := [(h, .inr (3, [.ref hs, .long op, .ref ha, .ref hl0])), (ha, .inl (k 1, 14436, .inl fa)), (hl0, .inl (k 1, 14436, .inl fl))]) (wr := [(hs, .inr (5, fs)), (hf, .inl (k 1, 36, .inl f)), (hg, .inl (k 1, 32, .inl g))]) hx hb hml hown hts hKK hP hD hS hA (k_openedRow l D k h hs ha hl0 op fa fl rga rgl a b ⟨by omega, by omega⟩ ⟨by omega, by omega⟩) ci_X3_openedRow qm_X3_26 ⟨Nat.le_of_ble_eq_true rfl, Nat.le_of_ble_eq_true rfl⟩ ⟨Nat.le_of_ble_eq_true rfl, Nat.le_of_ble_eq_true rfl⟩ [0, 1, 2] [3, 4, 5] rfl rfl rfl rfl rfl (by decide) 0 rfl rfl rfl hl.1 rfl (Nat.le_of_ble_eq_true rfl) dX3_arrival_23 (fun u_4 H locs hφ hP hD hS => ?_)
        obtain ⟨z_5, op_6, fa_7, fl_8⟩ := u_4
        obtain ⟨h_9, rah_9, rlh_9⟩ := hφ
        dsimp only at h_9 rah_9 rlh_9
        subst h_9
        have hP : va_P D vwCl [(hs, .inr (5, fs)), (hf, .inl (k 1, 36, .inl f)), (hg, .inl (k 1, 32, .inl g)), (h, .inr (3, [.ref hs, .long op_6, .ref ha, .ref hl0])), (ha, .inl (k 1, 14436, .inl fa_7)), (hl0, .inl (k 1, 14436, .inl fl_8))] H := hP
        have hD : va_D A [(hs, .inr (5, fs)), (hf, .inl (k 1, 36, .inl f)), (hg, .inl (k 1, 32, .inl g)), (h, .inr (3, [.ref hs, .long op_6, .ref ha, .ref hl0])), (ha, .inl (k 1, 14436, .inl fa_7)), (hl0, .inl (k 1, 14436, .inl fl_8))] := hD
        refine W.eq (g2 := F0 m 26 ls [.int (iZ (((a * 6) + b) * 401))]) rfl ?_
        refine lv_iload_n hx hb dX3_arrival_26 rfl (lv_at hl 2 rfl) ?_
        refine lv_iadd hx hb dX3_arrival_27 ?_
        refine lv_topi (fun x_10 ex_10 => ?_)
        obtain rfl : x_10 = iZ ((((a * 6) + b) * 401) + w) := ex_10.trans (iZ_add (((a * 6) + b) * 401) w)
        refine lv_istore (lv' := [(4, .int (iZ ((((a * 6) + b) * 401) + w))), (0, .ref h), (1, .int (iZ a)), (2, .int (iZ w)), (3, .int (iZ b))]) hx hb dX3_arrival_28 hl (by decide) rfl (fun ls hl => ?_)
        refine lv_aload_n hx hb dX3_arrival_30 rfl (lv_at hl 1 rfl) ?_
        refine va_get (D := D) (ci := 3) (v := .ref ha) (C := RX3) (T := TX3) (N := 4) hx hb hts iX3 hown hK hP 3 rfl rfl 2 (by decide) (hts _ qf_X3_19) (fun _ h => h) rfl dX3_arrival_31 ?_
        refine lv_iload hx hb dX3_arrival_34 (lv_at hl 0 rfl) ?_
        refine va_iald hx hb hK hP 4 1 rfl rfl (zin (e := ((((a * 6) + b) * 401) + w)) (n := 14436) ⟨by omega, by omega⟩ (by decide)) dX3_arrival_36 ?_
        refine lv_topi (fun x_11 ex_11 => ?_)
        obtain rfl : x_11 = iZ (gz fa_7 ((((a * 6) + b) * 401) + w)) := ex_11.trans (gz_eq ⟨by omega, by omega⟩)
        have h_12 := rah_9 ((((a * 6) + b) * 401) + w) (by omega) (by omega)
        refine lv_bipush (v := iZ (-2)) hx hb dX3_arrival_37 (by decide) ?_
        refine lv_icmp_ne (tgt := 127) hx hb dX3_arrival_39 (by decide) (fun c_13 => ?_) (fun c_13 => ?_)
        ·
          have c_13 := mt (zeq (x := iZ (gz fa_7 ((((a * 6) + b) * 401) + w))) (y := iZ (-2)) rfl rfl ⟨by omega, by omega⟩ ⟨by omega, by omega⟩).mpr c_13
          refine lv_aload_n hx hb dX3_arrival_127 rfl (lv_at hl 1 rfl) ?_
          refine va_get (D := D) (ci := 3) (v := .ref ha) (C := RX3) (T := TX3) (N := 4) hx hb hts iX3 hown hK hP 3 rfl rfl 2 (by decide) (hts _ qf_X3_19) (fun _ h => h) rfl dX3_arrival_128 ?_
          refine lv_iload hx hb dX3_arrival_131 (lv_at hl 0 rfl) ?_
          refine va_iald hx hb hK hP 4 1 rfl rfl (zin (e := ((((a * 6) + b) * 401) + w)) (n := 14436) ⟨by omega, by omega⟩ (by decide)) dX3_arrival_133 ?_
          refine lv_topi (fun x_14 ex_14 => ?_)
          obtain rfl : x_14 = iZ (gz fa_7 ((((a * 6) + b) * 401) + w)) := ex_14.trans (gz_eq ⟨by omega, by omega⟩)
          have h_15 := rah_9 ((((a * 6) + b) * 401) + w) (by omega) (by omega)
          exact EWi hx hb hr hlocks hS ((gz fa_7 ((((a * 6) + b) * 401) + w)), op_6, fa_7, fl_8) rfl ⟨⟨by omega, by omega⟩, rah_9, rlh_9⟩ (hP.sub [3, 4, 5, 0, 1, 2] rfl) (hD.sub [3, 4, 5, 0, 1, 2] rfl rfl) dX3_arrival_134
        ·
          have c_13 := (zeq (x := iZ (gz fa_7 ((((a * 6) + b) * 401) + w))) (y := iZ (-2)) rfl rfl ⟨by omega, by omega⟩ ⟨by omega, by omega⟩).mp c_13
          refine lv_aload_n hx hb dX3_arrival_42 rfl (lv_at hl 1 rfl) ?_
          refine va_get (D := D) (ci := 3) (v := .ref hs) (C := RX3) (T := TX3) (N := 4) hx hb hts iX3 hown hK hP 3 rfl rfl 0 (by decide) (hts _ qf_X3_11) (fun _ h => h) rfl dX3_arrival_43 ?_
          refine lv_iload_n hx hb dX3_arrival_46 rfl (lv_at hl 2 rfl) ?_
          refine lv_iload_n hx hb dX3_arrival_47 rfl (lv_at hl 3 rfl) ?_
          refine CRV (As := [.int (iZ a), .int (iZ w)]) (rest := []) hx hb hml hown hts hKK (hP.sub (ws' := [(hs, .inr (5, fs)), (hf, .inl (k 1, 36, .inl f))]) [0, 1] rfl) (k_heading l D k hs hf fs f1 f n hn hx0 a w ⟨by omega, by omega⟩ ⟨by omega, by omega⟩) ci_X5_heading qm_X3_30 ⟨Nat.le_of_ble_eq_true rfl, Nat.le_of_ble_eq_true rfl⟩ ⟨Nat.le_of_ble_eq_true rfl, Nat.le_of_ble_eq_true rfl⟩ 0 rfl rfl rfl hl.1 rfl (Nat.le_of_ble_eq_true rfl) dX3_arrival_48 ?_
          have hh_h_16 := hd_rg f a w
          refine lv_istore (lv' := [(5, .int (iZ (hd f a w))), (4, .int (iZ ((((a * 6) + b) * 401) + w))), (0, .ref h), (1, .int (iZ a)), (2, .int (iZ w)), (3, .int (iZ b))]) hx hb dX3_arrival_51 hl (by decide) rfl (fun ls hl => ?_)
          refine lv_iload_n hx hb dX3_arrival_53 rfl (lv_at hl 4 rfl) ?_
          refine lv_iconst (v := iZ 1) hx hb dX3_arrival_54 (by decide) ?_
          refine lv_iadd hx hb dX3_arrival_55 ?_
          refine lv_topi (fun x_17 ex_17 => ?_)
          obtain rfl : x_17 = iZ (w + 1) := ex_17.trans (iZ_add w 1)
          refine lv_istore (lv' := [(6, .int (iZ (w + 1))), (5, .int (iZ (hd f a w))), (4, .int (iZ ((((a * 6) + b) * 401) + w))), (0, .ref h), (1, .int (iZ a)), (2, .int (iZ w)), (3, .int (iZ b))]) hx hb dX3_arrival_56 hl (by decide) rfl (fun ls hl => ?_)
          have HL1 : ∀ (fu : Nat) (i : Int) (H : Heap) (locs : List Loc) (ls : Array Slot), (w + 21 - i) < (fu : Int) → w + 1 ≤ i → i ≤ w + 20 → va_P D vwCl [(hs, .inr (5, fs)), (hf, .inl (k 1, 36, .inl f)), (hg, .inl (k 1, 32, .inl g)), (h, .inr (3, [.ref hs, .long op_6, .ref ha, .ref hl0])), (ha, .inl (k 1, 14436, .inl fa_7)), (hl0, .inl (k 1, 14436, .inl fl_8))] H → va_D A [(hs, .inr (5, fs)), (hf, .inl (k 1, 36, .inl f)), (hg, .inl (k 1, 32, .inl g)), (h, .inr (3, [.ref hs, .long op_6, .ref ha, .ref hl0])), (ha, .inl (k 1, 14436, .inl fa_7)), (hl0, .inl (k 1, 14436, .inl fl_8))] → va_S A s.heap H locs → lv_has ls 7 [(6, .int (iZ i)), (5, .int (iZ (hd f a w))), (4, .int (iZ ((((a * 6) + b) * 401) + w))), (0, .ref h), (1, .int (iZ a)), (2, .int (iZ w)), (3, .int (iZ b))] → W p l e (rj 1 0 0) s m [.ref h, .int (iZ a), .int (iZ w), .int (iZ b)].toArray below meth c H locs 0 0 (MQ below (QW (σ := (Int × Int64 × (Nat → Int32) × (Nat → Int32))) (fun u => some (.int (iZ u.1))) (fun u => (-1 ≤ u.1 ∧ u.1 ≤ 420) ∧ rgI u.2.2.1 (-2) 420 14436 ∧ rgI u.2.2.2 (-2) 400 14436) (fun u => [(h, .inr (3, [.ref hs, .long u.2.1, .ref ha, .ref hl0])), (ha, .inl (k 1, 14436, .inl u.2.2.1)), (hl0, .inl (k 1, 14436, .inl u.2.2.2)), (hs, .inr (5, fs)), (hf, .inl (k 1, 36, .inl f)), (hg, .inl (k 1, 32, .inl g))]) D A) [.ref h, .int (iZ a), .int (iZ w), .int (iZ b)].toArray s 0 0 A) (F0 m 58 ls []) := by
            intro fu
            induction fu with
            | zero => intro i H locs ls hμ1 hi1 hi2 hP hD hS hl; exact absurd hμ1 (by omega)
            | succ fu ih1 =>
              intro i H locs ls hμ1 hi1 hi2 hP hD hS hl
              refine lv_iload hx hb dX3_arrival_58 (lv_at hl 0 rfl) ?_
              refine lv_iload_n hx hb dX3_arrival_60 rfl (lv_at hl 5 rfl) ?_
              refine lv_bipush (v := iZ 20) hx hb dX3_arrival_61 (by decide) ?_
              refine lv_iadd hx hb dX3_arrival_63 ?_
              refine lv_topi (fun x_18 ex_18 => ?_)
              obtain rfl : x_18 = iZ (w + 20) := ex_18.trans (iZ_add w 20)
              refine lv_icmp_ge (tgt := 101) hx hb dX3_arrival_64 (by decide) (fun c_19 => ?_) (fun c_19 => ?_)
              ·
                have c_19 := (zle (x := iZ (w + 20)) (y := iZ i) rfl rfl ⟨by omega, by omega⟩ ⟨by omega, by omega⟩).mp c_19
                refine lv_aload_n hx hb dX3_arrival_101 rfl (lv_at hl 3 rfl) ?_
                refine va_get (D := D) (ci := 3) (v := .ref ha) (C := RX3) (T := TX3) (N := 4) hx hb hts iX3 hown hK hP 3 rfl rfl 2 (by decide) (hts _ qf_X3_19) (fun _ h => h) rfl dX3_arrival_102 ?_
                refine lv_iload hx hb dX3_arrival_105 (lv_at hl 2 rfl) ?_
                refine lv_aload_n hx hb dX3_arrival_107 rfl (lv_at hl 3 rfl) ?_
                refine va_get (D := D) (ci := 3) (v := .ref hs) (C := RX3) (T := TX3) (N := 4) hx hb hts iX3 hown hK hP 3 rfl rfl 0 (by decide) (hts _ qf_X3_11) (fun _ h => h) rfl dX3_arrival_108 ?_
                refine lv_iload_n hx hb dX3_arrival_111 rfl (lv_at hl 4 rfl) ?_
                refine lv_iload_n hx hb dX3_arrival_112 rfl (lv_at hl 6 rfl) ?_
                refine lv_iload_n hx hb dX3_arrival_113 rfl (lv_at hl 5 rfl) ?_
                refine CRV (As := [.int (iZ a), .int (iZ b), .int (iZ w)]) (rest := [.int (iZ ((((a * 6) + b) * 401) + w)), .ref ha]) hx hb hml hown hts hKK (hP.sub (ws' := [(hs, .inr (5, fs)), (hg, .inl (k 1, 32, .inl g))]) [0, 2] rfl) (k_ice l D k hs hg fs f2 g ni f4 hni a b w ⟨by omega, by omega⟩ ⟨by omega, by omega⟩ ⟨by omega, by omega⟩) ci_X5_hasIce qm_X3_39 ⟨Nat.le_of_ble_eq_true rfl, Nat.le_of_ble_eq_true rfl⟩ ⟨Nat.le_of_ble_eq_true rfl, Nat.le_of_ble_eq_true rfl⟩ 0 rfl rfl rfl hl.1 rfl (Nat.le_of_ble_eq_true rfl) dX3_arrival_114 ?_
                have hz_h_20 := bz_01 (isIc g ni a b w)
                refine lv_if_eq (tgt := 124) hx hb dX3_arrival_117 (by decide) (fun c_21 => ?_) (fun c_21 => ?_)
                ·
                  have c_21 := (zeq (x := iZ (bz (isIc g ni a b w))) (y := iZ 0) rfl rfl ⟨by omega, by omega⟩ ⟨by omega, by omega⟩).mp c_21
                  refine lv_iload hx hb dX3_arrival_124 (lv_at hl 0 rfl) ?_
                  refine va_iast hx hb hK hP hD hS 4 1 rfl rfl (zin (e := ((((a * 6) + b) * 401) + w)) (n := 14436) ⟨by omega, by omega⟩ (by decide)) dX3_arrival_126 (fun H locs hP hD hS => ?_)
                  obtain ⟨f_22, hf_22⟩ : ∃ gg9, gg9 = upd fa_7 (iZ ((((a * 6) + b) * 401) + w)).toNatClampNeg (iZ i) := ⟨_, rfl⟩
                  rw [← hf_22] at hP hD
                  have rgf_22 := rg_upd rah_9 hf_22 (by omega) ⟨by omega, by omega⟩ ⟨by omega, by omega⟩
                  have hP : va_P D vwCl [(hs, .inr (5, fs)), (hf, .inl (k 1, 36, .inl f)), (hg, .inl (k 1, 32, .inl g)), (h, .inr (3, [.ref hs, .long op_6, .ref ha, .ref hl0])), (ha, .inl (k 1, 14436, .inl f_22)), (hl0, .inl (k 1, 14436, .inl fl_8))] H := hP
                  have hD : va_D A [(hs, .inr (5, fs)), (hf, .inl (k 1, 36, .inl f)), (hg, .inl (k 1, 32, .inl g)), (h, .inr (3, [.ref hs, .long op_6, .ref ha, .ref hl0])), (ha, .inl (k 1, 14436, .inl f_22)), (hl0, .inl (k 1, 14436, .inl fl_8))] := hD
                  refine lv_aload_n hx hb dX3_arrival_127 rfl (lv_at hl 3 rfl) ?_
                  refine va_get (D := D) (ci := 3) (v := .ref ha) (C := RX3) (T := TX3) (N := 4) hx hb hts iX3 hown hK hP 3 rfl rfl 2 (by decide) (hts _ qf_X3_19) (fun _ h => h) rfl dX3_arrival_128 ?_
                  refine lv_iload hx hb dX3_arrival_131 (lv_at hl 2 rfl) ?_
                  refine va_iald hx hb hK hP 4 1 rfl rfl (zin (e := ((((a * 6) + b) * 401) + w)) (n := 14436) ⟨by omega, by omega⟩ (by decide)) dX3_arrival_133 ?_
                  refine lv_topi (fun x_23 ex_23 => ?_)
                  obtain rfl : x_23 = iZ (gz f_22 ((((a * 6) + b) * 401) + w)) := ex_23.trans (gz_eq ⟨by omega, by omega⟩)
                  have h_24 := rgf_22 ((((a * 6) + b) * 401) + w) (by omega) (by omega)
                  have uh_24 := gz_up hf_22 ⟨by omega, by omega⟩ ⟨by omega, by omega⟩ (j := ((((a * 6) + b) * 401) + w)) (by omega)
                  rw [if_pos rfl] at uh_24
                  exact EWi hx hb hr hlocks hS ((gz f_22 ((((a * 6) + b) * 401) + w)), op_6, f_22, fl_8) rfl ⟨⟨by omega, by omega⟩, rgf_22, rlh_9⟩ (hP.sub [3, 4, 5, 0, 1, 2] rfl) (hD.sub [3, 4, 5, 0, 1, 2] rfl rfl) dX3_arrival_134
                ·
                  have c_21 := mt (zeq (x := iZ (bz (isIc g ni a b w))) (y := iZ 0) rfl rfl ⟨by omega, by omega⟩ ⟨by omega, by omega⟩).mpr c_21
                  refine lv_iconst (v := iZ (-1)) hx hb dX3_arrival_120 (by decide) ?_
                  refine lv_goto (tgt := 126) hx hb dX3_arrival_121 (by decide) ?_
                  refine va_iast hx hb hK hP hD hS 4 1 rfl rfl (zin (e := ((((a * 6) + b) * 401) + w)) (n := 14436) ⟨by omega, by omega⟩ (by decide)) dX3_arrival_126 (fun H locs hP hD hS => ?_)
                  obtain ⟨f_25, hf_25⟩ : ∃ gg9, gg9 = upd fa_7 (iZ ((((a * 6) + b) * 401) + w)).toNatClampNeg (iZ (-1)) := ⟨_, rfl⟩
                  rw [← hf_25] at hP hD
                  have rgf_25 := rg_upd rah_9 hf_25 (by omega) ⟨by omega, by omega⟩ ⟨by omega, by omega⟩
                  have hP : va_P D vwCl [(hs, .inr (5, fs)), (hf, .inl (k 1, 36, .inl f)), (hg, .inl (k 1, 32, .inl g)), (h, .inr (3, [.ref hs, .long op_6, .ref ha, .ref hl0])), (ha, .inl (k 1, 14436, .inl f_25)), (hl0, .inl (k 1, 14436, .inl fl_8))] H := hP
                  have hD : va_D A [(hs, .inr (5, fs)), (hf, .inl (k 1, 36, .inl f)), (hg, .inl (k 1, 32, .inl g)), (h, .inr (3, [.ref hs, .long op_6, .ref ha, .ref hl0])), (ha, .inl (k 1, 14436, .inl f_25)), (hl0, .inl (k 1, 14436, .inl fl_8))] := hD
                  refine lv_aload_n hx hb dX3_arrival_127 rfl (lv_at hl 3 rfl) ?_
                  refine va_get (D := D) (ci := 3) (v := .ref ha) (C := RX3) (T := TX3) (N := 4) hx hb hts iX3 hown hK hP 3 rfl rfl 2 (by decide) (hts _ qf_X3_19) (fun _ h => h) rfl dX3_arrival_128 ?_
                  refine lv_iload hx hb dX3_arrival_131 (lv_at hl 2 rfl) ?_
                  refine va_iald hx hb hK hP 4 1 rfl rfl (zin (e := ((((a * 6) + b) * 401) + w)) (n := 14436) ⟨by omega, by omega⟩ (by decide)) dX3_arrival_133 ?_
                  refine lv_topi (fun x_26 ex_26 => ?_)
                  obtain rfl : x_26 = iZ (gz f_25 ((((a * 6) + b) * 401) + w)) := ex_26.trans (gz_eq ⟨by omega, by omega⟩)
                  have h_27 := rgf_25 ((((a * 6) + b) * 401) + w) (by omega) (by omega)
                  have uh_27 := gz_up hf_25 ⟨by omega, by omega⟩ ⟨by omega, by omega⟩ (j := ((((a * 6) + b) * 401) + w)) (by omega)
                  rw [if_pos rfl] at uh_27
                  exact EWi hx hb hr hlocks hS ((gz f_25 ((((a * 6) + b) * 401) + w)), op_6, f_25, fl_8) rfl ⟨⟨by omega, by omega⟩, rgf_25, rlh_9⟩ (hP.sub [3, 4, 5, 0, 1, 2] rfl) (hD.sub [3, 4, 5, 0, 1, 2] rfl rfl) dX3_arrival_134
              ·
                have c_19 := mt (zle (x := iZ (w + 20)) (y := iZ i) rfl rfl ⟨by omega, by omega⟩ ⟨by omega, by omega⟩).mpr c_19
                refine lv_aload_n hx hb dX3_arrival_67 rfl (lv_at hl 3 rfl) ?_
                refine va_get (D := D) (ci := 3) (v := .ref hs) (C := RX3) (T := TX3) (N := 4) hx hb hts iX3 hown hK hP 3 rfl rfl 0 (by decide) (hts _ qf_X3_11) (fun _ h => h) rfl dX3_arrival_68 ?_
                refine lv_iload_n hx hb dX3_arrival_71 rfl (lv_at hl 4 rfl) ?_
                refine lv_iload hx hb dX3_arrival_72 (lv_at hl 1 rfl) ?_
                refine lv_iload_n hx hb dX3_arrival_74 rfl (lv_at hl 6 rfl) ?_
                refine lv_aload_n hx hb dX3_arrival_75 rfl (lv_at hl 3 rfl) ?_
                refine va_get (D := D) (ci := 3) (v := .ref hs) (C := RX3) (T := TX3) (N := 4) hx hb hts iX3 hown hK hP 3 rfl rfl 0 (by decide) (hts _ qf_X3_11) (fun _ h => h) rfl dX3_arrival_76 ?_
                refine lv_iload_n hx hb dX3_arrival_79 rfl (lv_at hl 6 rfl) ?_
                refine lv_iload hx hb dX3_arrival_80 (lv_at hl 0 rfl) ?_
                refine CRV (As := [.int (iZ b), .int (iZ i)]) (rest := [.int (iZ b), .int (iZ (hd f a w)), .int (iZ a), .ref hs]) hx hb hml hown hts hKK (hP.sub (ws' := [(hs, .inr (5, fs)), (hf, .inl (k 1, 36, .inl f))]) [0, 1] rfl) (k_heading l D k hs hf fs f1 f n hn hx0 b i ⟨by omega, by omega⟩ ⟨by omega, by omega⟩) ci_X5_heading qm_X3_30 ⟨Nat.le_of_ble_eq_true rfl, Nat.le_of_ble_eq_true rfl⟩ ⟨Nat.le_of_ble_eq_true rfl, Nat.le_of_ble_eq_true rfl⟩ 0 rfl rfl rfl hl.1 rfl (Nat.le_of_ble_eq_true rfl) dX3_arrival_82 ?_
                have hh_h_28 := hd_rg f b i
                refine CRV (As := [.int (iZ a), .int (iZ (hd f a w)), .int (iZ b), .int (iZ (hd f b i))]) (rest := []) hx hb hml hown hts hKK (hP.sub (ws' := [(hs, .inr (5, fs)), (hf, .inl (k 1, 36, .inl f))]) [0, 1] rfl) (k_apart l D k hs hf fs f1 f n hn hx0 a (hd f a w) b (hd f b i) ⟨by omega, by omega⟩ ⟨by omega, by omega⟩ ⟨by omega, by omega⟩ ⟨by omega, by omega⟩) ci_X5_apart qm_X3_35 ⟨Nat.le_of_ble_eq_true rfl, Nat.le_of_ble_eq_true rfl⟩ ⟨Nat.le_of_ble_eq_true rfl, Nat.le_of_ble_eq_true rfl⟩ 0 rfl rfl rfl hl.1 rfl (Nat.le_of_ble_eq_true rfl) dX3_arrival_85 ?_
                have ha_h_29 := ap_rg (h := (hd f a w)) (g := (hd f b i)) hx0 (a := a) (b := b) ⟨by omega, by omega⟩ ⟨by omega, by omega⟩ ⟨by omega, by omega⟩ ⟨by omega, by omega⟩
                refine lv_iload hx hb dX3_arrival_88 (lv_at hl 0 rfl) ?_
                refine lv_iload_n hx hb dX3_arrival_90 rfl (lv_at hl 5 rfl) ?_
                refine lv_isub hx hb dX3_arrival_91 ?_
                refine lv_topi (fun x_30 ex_30 => ?_)
                obtain rfl : x_30 = iZ (i - w) := ex_30.trans (iZ_sub i w)
                refine lv_icmp_le (tgt := 101) hx hb dX3_arrival_92 (by decide) (fun c_31 => ?_) (fun c_31 => ?_)
                ·
                  have c_31 := (zle (x := iZ (ap f a (hd f a w) b (hd f b i))) (y := iZ (i - w)) rfl rfl ⟨by omega, by omega⟩ ⟨by omega, by omega⟩).mp c_31
                  refine lv_aload_n hx hb dX3_arrival_101 rfl (lv_at hl 3 rfl) ?_
                  refine va_get (D := D) (ci := 3) (v := .ref ha) (C := RX3) (T := TX3) (N := 4) hx hb hts iX3 hown hK hP 3 rfl rfl 2 (by decide) (hts _ qf_X3_19) (fun _ h => h) rfl dX3_arrival_102 ?_
                  refine lv_iload hx hb dX3_arrival_105 (lv_at hl 2 rfl) ?_
                  refine lv_aload_n hx hb dX3_arrival_107 rfl (lv_at hl 3 rfl) ?_
                  refine va_get (D := D) (ci := 3) (v := .ref hs) (C := RX3) (T := TX3) (N := 4) hx hb hts iX3 hown hK hP 3 rfl rfl 0 (by decide) (hts _ qf_X3_11) (fun _ h => h) rfl dX3_arrival_108 ?_
                  refine lv_iload_n hx hb dX3_arrival_111 rfl (lv_at hl 4 rfl) ?_
                  refine lv_iload_n hx hb dX3_arrival_112 rfl (lv_at hl 6 rfl) ?_
                  refine lv_iload_n hx hb dX3_arrival_113 rfl (lv_at hl 5 rfl) ?_
                  refine CRV (As := [.int (iZ a), .int (iZ b), .int (iZ w)]) (rest := [.int (iZ ((((a * 6) + b) * 401) + w)), .ref ha]) hx hb hml hown hts hKK (hP.sub (ws' := [(hs, .inr (5, fs)), (hg, .inl (k 1, 32, .inl g))]) [0, 2] rfl) (k_ice l D k hs hg fs f2 g ni f4 hni a b w ⟨by omega, by omega⟩ ⟨by omega, by omega⟩ ⟨by omega, by omega⟩) ci_X5_hasIce qm_X3_39 ⟨Nat.le_of_ble_eq_true rfl, Nat.le_of_ble_eq_true rfl⟩ ⟨Nat.le_of_ble_eq_true rfl, Nat.le_of_ble_eq_true rfl⟩ 0 rfl rfl rfl hl.1 rfl (Nat.le_of_ble_eq_true rfl) dX3_arrival_114 ?_
                  have hz_h_32 := bz_01 (isIc g ni a b w)
                  refine lv_if_eq (tgt := 124) hx hb dX3_arrival_117 (by decide) (fun c_33 => ?_) (fun c_33 => ?_)
                  ·
                    have c_33 := (zeq (x := iZ (bz (isIc g ni a b w))) (y := iZ 0) rfl rfl ⟨by omega, by omega⟩ ⟨by omega, by omega⟩).mp c_33
                    refine lv_iload hx hb dX3_arrival_124 (lv_at hl 0 rfl) ?_
                    refine va_iast hx hb hK hP hD hS 4 1 rfl rfl (zin (e := ((((a * 6) + b) * 401) + w)) (n := 14436) ⟨by omega, by omega⟩ (by decide)) dX3_arrival_126 (fun H locs hP hD hS => ?_)
                    obtain ⟨f_34, hf_34⟩ : ∃ gg9, gg9 = upd fa_7 (iZ ((((a * 6) + b) * 401) + w)).toNatClampNeg (iZ i) := ⟨_, rfl⟩
                    rw [← hf_34] at hP hD
                    have rgf_34 := rg_upd rah_9 hf_34 (by omega) ⟨by omega, by omega⟩ ⟨by omega, by omega⟩
                    have hP : va_P D vwCl [(hs, .inr (5, fs)), (hf, .inl (k 1, 36, .inl f)), (hg, .inl (k 1, 32, .inl g)), (h, .inr (3, [.ref hs, .long op_6, .ref ha, .ref hl0])), (ha, .inl (k 1, 14436, .inl f_34)), (hl0, .inl (k 1, 14436, .inl fl_8))] H := hP
                    have hD : va_D A [(hs, .inr (5, fs)), (hf, .inl (k 1, 36, .inl f)), (hg, .inl (k 1, 32, .inl g)), (h, .inr (3, [.ref hs, .long op_6, .ref ha, .ref hl0])), (ha, .inl (k 1, 14436, .inl f_34)), (hl0, .inl (k 1, 14436, .inl fl_8))] := hD
                    refine lv_aload_n hx hb dX3_arrival_127 rfl (lv_at hl 3 rfl) ?_
                    refine va_get (D := D) (ci := 3) (v := .ref ha) (C := RX3) (T := TX3) (N := 4) hx hb hts iX3 hown hK hP 3 rfl rfl 2 (by decide) (hts _ qf_X3_19) (fun _ h => h) rfl dX3_arrival_128 ?_
                    refine lv_iload hx hb dX3_arrival_131 (lv_at hl 2 rfl) ?_
                    refine va_iald hx hb hK hP 4 1 rfl rfl (zin (e := ((((a * 6) + b) * 401) + w)) (n := 14436) ⟨by omega, by omega⟩ (by decide)) dX3_arrival_133 ?_
                    refine lv_topi (fun x_35 ex_35 => ?_)
                    obtain rfl : x_35 = iZ (gz f_34 ((((a * 6) + b) * 401) + w)) := ex_35.trans (gz_eq ⟨by omega, by omega⟩)
                    have h_36 := rgf_34 ((((a * 6) + b) * 401) + w) (by omega) (by omega)
                    have uh_36 := gz_up hf_34 ⟨by omega, by omega⟩ ⟨by omega, by omega⟩ (j := ((((a * 6) + b) * 401) + w)) (by omega)
                    rw [if_pos rfl] at uh_36
                    exact EWi hx hb hr hlocks hS ((gz f_34 ((((a * 6) + b) * 401) + w)), op_6, f_34, fl_8) rfl ⟨⟨by omega, by omega⟩, rgf_34, rlh_9⟩ (hP.sub [3, 4, 5, 0, 1, 2] rfl) (hD.sub [3, 4, 5, 0, 1, 2] rfl rfl) dX3_arrival_134
                  ·
                    have c_33 := mt (zeq (x := iZ (bz (isIc g ni a b w))) (y := iZ 0) rfl rfl ⟨by omega, by omega⟩ ⟨by omega, by omega⟩).mpr c_33
                    refine lv_iconst (v := iZ (-1)) hx hb dX3_arrival_120 (by decide) ?_
                    refine lv_goto (tgt := 126) hx hb dX3_arrival_121 (by decide) ?_
                    refine va_iast hx hb hK hP hD hS 4 1 rfl rfl (zin (e := ((((a * 6) + b) * 401) + w)) (n := 14436) ⟨by omega, by omega⟩ (by decide)) dX3_arrival_126 (fun H locs hP hD hS => ?_)
                    obtain ⟨f_37, hf_37⟩ : ∃ gg9, gg9 = upd fa_7 (iZ ((((a * 6) + b) * 401) + w)).toNatClampNeg (iZ (-1)) := ⟨_, rfl⟩
                    rw [← hf_37] at hP hD
                    have rgf_37 := rg_upd rah_9 hf_37 (by omega) ⟨by omega, by omega⟩ ⟨by omega, by omega⟩
                    have hP : va_P D vwCl [(hs, .inr (5, fs)), (hf, .inl (k 1, 36, .inl f)), (hg, .inl (k 1, 32, .inl g)), (h, .inr (3, [.ref hs, .long op_6, .ref ha, .ref hl0])), (ha, .inl (k 1, 14436, .inl f_37)), (hl0, .inl (k 1, 14436, .inl fl_8))] H := hP
                    have hD : va_D A [(hs, .inr (5, fs)), (hf, .inl (k 1, 36, .inl f)), (hg, .inl (k 1, 32, .inl g)), (h, .inr (3, [.ref hs, .long op_6, .ref ha, .ref hl0])), (ha, .inl (k 1, 14436, .inl f_37)), (hl0, .inl (k 1, 14436, .inl fl_8))] := hD
                    refine lv_aload_n hx hb dX3_arrival_127 rfl (lv_at hl 3 rfl) ?_
                    refine va_get (D := D) (ci := 3) (v := .ref ha) (C := RX3) (T := TX3) (N := 4) hx hb hts iX3 hown hK hP 3 rfl rfl 2 (by decide) (hts _ qf_X3_19) (fun _ h => h) rfl dX3_arrival_128 ?_
                    refine lv_iload hx hb dX3_arrival_131 (lv_at hl 2 rfl) ?_
                    refine va_iald hx hb hK hP 4 1 rfl rfl (zin (e := ((((a * 6) + b) * 401) + w)) (n := 14436) ⟨by omega, by omega⟩ (by decide)) dX3_arrival_133 ?_
                    refine lv_topi (fun x_38 ex_38 => ?_)
                    obtain rfl : x_38 = iZ (gz f_37 ((((a * 6) + b) * 401) + w)) := ex_38.trans (gz_eq ⟨by omega, by omega⟩)
                    have h_39 := rgf_37 ((((a * 6) + b) * 401) + w) (by omega) (by omega)
                    have uh_39 := gz_up hf_37 ⟨by omega, by omega⟩ ⟨by omega, by omega⟩ (j := ((((a * 6) + b) * 401) + w)) (by omega)
                    rw [if_pos rfl] at uh_39
                    exact EWi hx hb hr hlocks hS ((gz f_37 ((((a * 6) + b) * 401) + w)), op_6, f_37, fl_8) rfl ⟨⟨by omega, by omega⟩, rgf_37, rlh_9⟩ (hP.sub [3, 4, 5, 0, 1, 2] rfl) (hD.sub [3, 4, 5, 0, 1, 2] rfl rfl) dX3_arrival_134
                ·
                  have c_31 := mt (zle (x := iZ (ap f a (hd f a w) b (hd f b i))) (y := iZ (i - w)) rfl rfl ⟨by omega, by omega⟩ ⟨by omega, by omega⟩).mpr c_31
                  refine lv_iinc (v := iZ (i + 1)) (lv' := [(6, .int (iZ (i + 1))), (5, .int (iZ (hd f a w))), (4, .int (iZ ((((a * 6) + b) * 401) + w))), (0, .ref h), (1, .int (iZ a)), (2, .int (iZ w)), (3, .int (iZ b))]) hx hb dX3_arrival_95 hl (k := 0) rfl (iZ_add i 1) (by decide) rfl (fun ls hl => ?_)
                  refine lv_goto (tgt := 58) hx hb dX3_arrival_98 (by decide) ?_
                  exact ih1 (i + 1) _ _ _ (by omega) (by omega) (by omega) (hP.sub [0, 1, 2, 3, 4, 5] rfl) (hD.sub [0, 1, 2, 3, 4, 5] rfl rfl) hS (lv_sub hl [0, 1, 2, 3, 4, 5, 6] rfl)
          exact HL1 21 (w + 1) _ _ _ (by omega) (by omega) (by omega) (hP.sub [0, 1, 2, 3, 4, 5] rfl) (hD.sub [0, 1, 2, 3, 4, 5] rfl rfl) hS (lv_sub hl [0, 1, 2, 3, 4, 5, 6] rfl)
      ·
        have c_3 := (zeq (x := iZ a) (y := iZ b) rfl rfl ⟨by omega, by omega⟩ ⟨by omega, by omega⟩).mp c_3
        refine lv_iload_n hx hb dX3_arrival_18 rfl (lv_at hl 2 rfl) ?_
        exact EWi hx hb hr hlocks hS (w, op, fa, fl) rfl ⟨⟨by omega, by omega⟩, rga, rgl⟩ (hP.sub [0, 1, 2, 3, 4, 5] rfl) (hD.sub [0, 1, 2, 3, 4, 5] rfl rfl) dX3_arrival_19
    ·
      have c_2 := mt (zle (x := iZ w) (y := iZ 400) rfl rfl ⟨by omega, by omega⟩ ⟨by omega, by omega⟩).mpr c_2
      refine lv_iconst (v := iZ (-1)) hx hb dX3_arrival_11 (by decide) ?_
      exact EWi hx hb hr hlocks hS ((-1), op, fa, fl) rfl ⟨⟨by omega, by omega⟩, rga, rgl⟩ (hP.sub [0, 1, 2, 3, 4, 5] rfl) (hD.sub [0, 1, 2, 3, 4, 5] rfl rfl) dX3_arrival_12
