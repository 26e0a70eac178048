set_option maxHeartbeats 4000000 in
set_option maxRecDepth 100000 in
theorem n_Reader (l : Launch) (D : va_G) (k : Nat → ClassId) (sa sv : Nat) (sf : Nat → Int32) (h : Nat) : WDS (σ := (Nat → Nat)) sa sv sf l yX4_init cX4_init 5 none 4 2 925 D k [.ref h] [(h, .inr (4, [.null, .null, .int 0, .int 0, .int 0, .int 0, .int 0, .int 0, .int 0, .long 0, .int 0, .int 0]))] (fun _ => none) (fun _ => True) (fun u => [(h, .inr (4, [.ref (u 0), .ref (u 1), .int 0, .int 0, .int 0, .int 0, .int 0, .int 0, .int 0, .long 0, .int (-1), .int (-1)])), ((u 0), .inl (k 0, 900, .inl (fun _ => 0)))]) := by
  refine MWS (by decide) (Nat.le_of_ble_eq_true rfl) (fun p e s m below meth c ls A hx hb hml hr hlocks hin hts hown hKK hP hD hS hA hSX hRR hl => ?_)
  have hK := hKK.1
  have hl : lv_has ls 5 [(0, .ref h)] := hl
  refine lv_aload_n hx hb dX4_init_0 rfl (lv_at hl 0 rfl) ?_
  refine W.objInit hx hb hown (hts _ qm_X4_3) (hts _ qi_objectInit) (hts _ qc_objectInit) rfl (by rw [hml]; exact hl.1) rfl dX4_init_1 (Nat.le_of_ble_eq_true rfl) (Nat.le_of_ble_eq_true rfl) ?_
  refine W.eq (g2 := F0 m 4 ls []) rfl ?_
  refine lv_aload_n hx hb dX4_init_4 rfl (lv_at hl 0 rfl) ?_
  refine lv_sipush (v := 900) hx hb dX4_init_5 (by decide) ?_
  refine nwa (atype := .byte) (t := 0) (a0 := (900, .inl (fun _ => 0))) hx hb (hts _ qa_byte) rfl rfl hKK hP hD hS hA (fun _ => rfl) (by decide) (by decide +kernel) (by decide) (Nat.le_of_ble_eq_true rfl) (Nat.le_of_ble_eq_true rfl) dX4_init_8 (fun a_1 H hP hD hS => ?_)
  have hP : va_P D vwCl [(h, .inr (4, [.null, .null, .int 0, .int 0, .int 0, .int 0, .int 0, .int 0, .int 0, .long 0, .int 0, .int 0])), (a_1, .inl (k 0, 900, .inl (fun _ => 0)))] H := hP
  have hD : va_D A [(h, .inr (4, [.null, .null, .int 0, .int 0, .int 0, .int 0, .int 0, .int 0, .int 0, .long 0, .int 0, .int 0])), (a_1, .inl (k 0, 900, .inl (fun _ => 0)))] := hD
  refine W.widen (k := 1) (n := 900) (by decide) (by decide) ?_
  refine va_putF (D := D) (ci := 4) (v := .ref a_1) (ty := (tyX4 0)) (C := RX4) (T := TX4) (N := 12) hx hb hts iX4 tyX4 tyX4_ok nmX4 hown hK hP hD hS 0 rfl rfl 0 (by decide) (hts _ qf_X4_9) (fun _ h => h) rfl hin rfl (by decide +kernel) rfl rfl (Nat.le_of_ble_eq_true rfl) dX4_init_10 (fun H locs hP hD hS => ?_)
  have hP : va_P D vwCl [(h, .inr (4, [.ref a_1, .null, .int 0, .int 0, .int 0, .int 0, .int 0, .int 0, .int 0, .long 0, .int 0, .int 0])), (a_1, .inl (k 0, 900, .inl (fun _ => 0)))] H := hP
  have hD : va_D A [(h, .inr (4, [.ref a_1, .null, .int 0, .int 0, .int 0, .int 0, .int 0, .int 0, .int 0, .long 0, .int 0, .int 0])), (a_1, .inl (k 0, 900, .inl (fun _ => 0)))] := hD
  refine lv_aload_n hx hb dX4_init_13 rfl (lv_at hl 0 rfl) ?_
  refine lv_bipush (v := 25) hx hb dX4_init_14 (by decide) ?_
  refine nwa (atype := .long) (t := 2) (a0 := (25, .inr (.inl (fun _ => 0)))) hx hb (hts _ qa_long) rfl rfl hKK hP hD hS hA (fun _ => rfl) (by decide) (by decide +kernel) (by decide) (Nat.le_of_ble_eq_true rfl) (Nat.le_of_ble_eq_true rfl) dX4_init_16 (fun a_2 H hP hD hS => ?_)
  have hP : va_P D vwCl [(h, .inr (4, [.ref a_1, .null, .int 0, .int 0, .int 0, .int 0, .int 0, .int 0, .int 0, .long 0, .int 0, .int 0])), (a_1, .inl (k 0, 900, .inl (fun _ => 0))), (a_2, .inl (k 2, 25, .inr (.inl (fun _ => 0))))] H := hP
  have hD : va_D A [(h, .inr (4, [.ref a_1, .null, .int 0, .int 0, .int 0, .int 0, .int 0, .int 0, .int 0, .long 0, .int 0, .int 0])), (a_1, .inl (k 0, 900, .inl (fun _ => 0))), (a_2, .inl (k 2, 25, .inr (.inl (fun _ => 0))))] := hD
  refine W.widen (k := 2) (n := 925) (by decide) (by decide) ?_
  refine va_putF (D := D) (ci := 4) (v := .ref a_2) (ty := (tyX4 1)) (C := RX4) (T := TX4) (N := 12) hx hb hts iX4 tyX4 tyX4_ok nmX4 hown hK hP hD hS 0 rfl rfl 1 (by decide) (hts _ qf_X4_15) (fun _ h => h) rfl hin rfl (by decide +kernel) rfl rfl (Nat.le_of_ble_eq_true rfl) dX4_init_18 (fun H locs hP hD hS => ?_)
  have hP : va_P D vwCl [(h, .inr (4, [.ref a_1, .ref a_2, .int 0, .int 0, .int 0, .int 0, .int 0, .int 0, .int 0, .long 0, .int 0, .int 0])), (a_1, .inl (k 0, 900, .inl (fun _ => 0))), (a_2, .inl (k 2, 25, .inr (.inl (fun _ => 0))))] H := hP
  have hD : va_D A [(h, .inr (4, [.ref a_1, .ref a_2, .int 0, .int 0, .int 0, .int 0, .int 0, .int 0, .int 0, .long 0, .int 0, .int 0])), (a_1, .inl (k 0, 900, .inl (fun _ => 0))), (a_2, .inl (k 2, 25, .inr (.inl (fun _ => 0))))] := hD
  refine lv_aload_n hx hb dX4_init_21 rfl (lv_at hl 0 rfl) ?_
  refine lv_iconst (v := (-1)) hx hb dX4_init_22 (by decide) ?_
  refine va_put (D := D) (ci := 4) (v := .int (-1)) (ty := .int) (C := RX4) (T := TX4) (N := 12) hx hb hts iX4 tyX4 tyX4_ok nmX4 hown hK hP hD hS 0 rfl rfl 10 (by decide) (hts _ qf_X4_19) (fun _ h => h) rfl (by decide +kernel) rfl rfl (Nat.le_of_ble_eq_true rfl) dX4_init_23 (fun H locs hP hD hS => ?_)
  have hP : va_P D vwCl [(h, .inr (4, [.ref a_1, .ref a_2, .int 0, .int 0, .int 0, .int 0, .int 0, .int 0, .int 0, .long 0, .int (-1), .int 0])), (a_1, .inl (k 0, 900, .inl (fun _ => 0))), (a_2, .inl (k 2, 25, .inr (.inl (fun _ => 0))))] H := hP
  have hD : va_D A [(h, .inr (4, [.ref a_1, .ref a_2, .int 0, .int 0, .int 0, .int 0, .int 0, .int 0, .int 0, .long 0, .int (-1), .int 0])), (a_1, .inl (k 0, 900, .inl (fun _ => 0))), (a_2, .inl (k 2, 25, .inr (.inl (fun _ => 0))))] := hD
  refine lv_aload_n hx hb dX4_init_26 rfl (lv_at hl 0 rfl) ?_
  refine lv_iconst (v := (-1)) hx hb dX4_init_27 (by decide) ?_
  refine va_put (D := D) (ci := 4) (v := .int (-1)) (ty := .int) (C := RX4) (T := TX4) (N := 12) hx hb hts iX4 tyX4 tyX4_ok nmX4 hown hK hP hD hS 0 rfl rfl 11 (by decide) (hts _ qf_X4_23) (fun _ h => h) rfl (by decide +kernel) rfl rfl (Nat.le_of_ble_eq_true rfl) dX4_init_28 (fun H locs hP hD hS => ?_)
  have hP : va_P D vwCl [(h, .inr (4, [.ref a_1, .ref a_2, .int 0, .int 0, .int 0, .int 0, .int 0, .int 0, .int 0, .long 0, .int (-1), .int (-1)])), (a_1, .inl (k 0, 900, .inl (fun _ => 0))), (a_2, .inl (k 2, 25, .inr (.inl (fun _ => 0))))] H := hP
  have hD : va_D A [(h, .inr (4, [.ref a_1, .ref a_2, .int 0, .int 0, .int 0, .int 0, .int 0, .int 0, .int 0, .long 0, .int (-1), .int (-1)])), (a_1, .inl (k 0, 900, .inl (fun _ => 0))), (a_2, .inl (k 2, 25, .inr (.inl (fun _ => 0))))] := hD
  refine lv_lconst (v := 0) hx hb dX4_init_31 rfl ?_
  refine lv_lstore_n (lv' := [(1, .long 0), (0, .ref h)]) hx hb dX4_init_32 rfl hl (by decide) rfl (fun ls hl => ?_)
  refine lv_iconst (v := 0) hx hb dX4_init_33 (by decide) ?_
  refine lv_istore_n (lv' := [(3, .int 0), (1, .long 0), (0, .ref h)]) hx hb dX4_init_34 rfl hl (by decide) rfl (fun ls hl => ?_)
  refine lv_iconst (v := 0) hx hb dX4_init_35 (by decide) ?_
  refine lv_istore (lv' := [(4, .int 0), (3, .int 0), (1, .long 0), (0, .ref h)]) hx hb dX4_init_36 hl (by decide) rfl (fun ls hl => ?_)
  have HL : ∀ (r i : Nat) (cd : Int64) (m1 : Nat) (g : Nat → Int64) (H : Heap) (locs : List Loc) (ls : Array Slot), i + r = 124 → m1 ≤ 25 → va_P D vwCl [(h, .inr (4, [.ref a_1, .ref a_2, .int 0, .int 0, .int 0, .int 0, .int 0, .int 0, .int 0, .long 0, .int (-1), .int (-1)])), (a_1, .inl (k 0, 900, .inl (fun _ => 0))), (a_2, .inl (k 2, 25, .inr (.inl g)))] H → va_D A [(h, .inr (4, [.ref a_1, .ref a_2, .int 0, .int 0, .int 0, .int 0, .int 0, .int 0, .int 0, .long 0, .int (-1), .int (-1)])), (a_1, .inl (k 0, 900, .inl (fun _ => 0))), (a_2, .inl (k 2, 25, .inr (.inl g)))] → va_S A s.heap H locs → lv_has ls 5 [(4, .int (nI i)), (3, .int (nI m1)), (1, .long cd), (0, .ref h)] → W p l e (rj 4 2 925) s m [.ref h].toArray below meth c H locs 2 925 (MQ below (QW (σ := (Nat → Nat)) (fun _ => none) (fun _ => True) (fun u => [(h, .inr (4, [.ref (u 0), .ref (u 1), .int 0, .int 0, .int 0, .int 0, .int 0, .int 0, .int 0, .long 0, .int (-1), .int (-1)])), ((u 0), .inl (k 0, 900, .inl (fun _ => 0)))]) D A) [.ref h].toArray s 2 925 A) (F0 m 38 ls []) := by
    intro r
    induction r with
    | zero =>
      intro i cd m1 g H locs ls hi hm1 hP hD hS hl
      refine lv_iload hx hb dX4_init_38 (lv_at hl 0 rfl) ?_
      refine va_ldcS hx hb hown hRR dX4_init_40 ?_
      refine W.callR (rzV (As := []) (rest := [.int (nI i)]) hx hb hml hown hts ((hSX.kept hS.2.1).narrow (fun _ h => h.elim)) (j_length l sa sv sf) ci_J0_length_8abf5 rfl qm_X4_28 ⟨Nat.le_of_ble_eq_true rfl, Nat.le_of_ble_eq_true rfl⟩ ⟨Nat.le_of_ble_eq_true rfl, Nat.le_of_ble_eq_true rfl⟩ rfl hl.1 rfl (Nat.le_of_ble_eq_true rfl) dX4_init_42) ?_
      refine W.eq (g2 := F0 m 45 ls [.int 124, .int (nI i)]) rfl ?_
      refine lv_icmp_ge (tgt := 108) hx hb dX4_init_45 (by decide) (fun _ => ?_) (fun c => absurd (nI_le (a := 124) (b := i) (by omega) (by omega)) c)
      exact EWv hx hb hr hlocks hS (fun i => [a_1, a_2].getD i 0) rfl trivial (hP.sub [0, 1] rfl) (hD.sub [0, 1] rfl rfl) dX4_init_108
    | succ r ih =>
      intro i cd m1 g H locs ls hi hm1 hP hD hS hl
      refine lv_iload hx hb dX4_init_38 (lv_at hl 0 rfl) ?_
      refine va_ldcS hx hb hown hRR dX4_init_40 ?_
      refine W.callR (rzV (As := []) (rest := [.int (nI i)]) hx hb hml hown hts ((hSX.kept hS.2.1).narrow (fun _ h => h.elim)) (j_length l sa sv sf) ci_J0_length_8abf5 rfl qm_X4_28 ⟨Nat.le_of_ble_eq_true rfl, Nat.le_of_ble_eq_true rfl⟩ ⟨Nat.le_of_ble_eq_true rfl, Nat.le_of_ble_eq_true rfl⟩ rfl hl.1 rfl (Nat.le_of_ble_eq_true rfl) dX4_init_42) ?_
      refine W.eq (g2 := F0 m 45 ls [.int 124, .int (nI i)]) rfl ?_
      refine lv_icmp_ge (tgt := 108) hx hb dX4_init_45 (by decide) (fun c => absurd c (nI_ge (a := i) (b := 124) (by omega) (by omega))) (fun _ => ?_)
      refine lv_iload_n hx hb dX4_init_48 rfl (lv_at hl 1 rfl) ?_
      refine lv_bipush (v := 25) hx hb dX4_init_49 (by decide) ?_
      refine lv_icmp_ge (tgt := 108) hx hb dX4_init_51 (by decide) (fun c_3 => ?_) (fun c_3 => ?_)
      ·
        exact EWv hx hb hr hlocks hS (fun i => [a_1, a_2].getD i 0) rfl trivial (hP.sub [0, 1] rfl) (hD.sub [0, 1] rfl rfl) dX4_init_108
      ·
        refine va_ldcS hx hb hown hRR dX4_init_54 ?_
        refine lv_iload hx hb dX4_init_56 (lv_at hl 0 rfl) ?_
        refine callC (rzV (As := [.int (nI i)]) (rest := []) hx hb hml hown hts ((hSX.kept hS.2.1).narrow (fun _ h => h.elim)) (j_charAt l sa sv sf i (by omega)) ci_J0_charAt_5068e rfl qm_X4_34 ⟨Nat.le_of_ble_eq_true rfl, Nat.le_of_ble_eq_true rfl⟩ ⟨Nat.le_of_ble_eq_true rfl, Nat.le_of_ble_eq_true rfl⟩ rfl hl.1 rfl (Nat.le_of_ble_eq_true rfl) dX4_init_58) (fun z_4 _ => ?_)
        refine W.eq (g2 := F0 m 61 ls [.int z_4]) rfl ?_
        refine lv_bipush (v := 32) hx hb dX4_init_61 (by decide) ?_
        refine lv_icmp_ne (tgt := 81) hx hb dX4_init_63 (by decide) (fun c_5 => ?_) (fun c_5 => ?_)
        ·
          refine lv_lload_n hx hb dX4_init_81 rfl (lv_at hl 2 rfl) ?_
          refine lv_ldc2 (own := RX4) (v := 32) hx hb hown (hts _ qk_X4_38) dX4_init_82 ?_
          refine lv_lmul hx hb dX4_init_85 ?_
          refine lv_topl (fun x_6 ex_6 => ?_)
          refine va_ldcS hx hb hown hRR dX4_init_86 ?_
          refine lv_iload hx hb dX4_init_88 (lv_at hl 0 rfl) ?_
          refine callC (rzV (As := [.int (nI i)]) (rest := [.long x_6]) hx hb hml hown hts ((hSX.kept hS.2.1).narrow (fun _ h => h.elim)) (j_charAt l sa sv sf i (by omega)) ci_J0_charAt_5068e rfl qm_X4_34 ⟨Nat.le_of_ble_eq_true rfl, Nat.le_of_ble_eq_true rfl⟩ ⟨Nat.le_of_ble_eq_true rfl, Nat.le_of_ble_eq_true rfl⟩ rfl hl.1 rfl (Nat.le_of_ble_eq_true rfl) dX4_init_90) (fun z_7 _ => ?_)
          refine W.eq (g2 := F0 m 93 ls [.int z_7, .long x_6]) rfl ?_
          refine lv_i2l (v := z_7.toInt64) hx hb dX4_init_93 rfl ?_
          refine lv_ladd hx hb dX4_init_94 ?_
          refine lv_topl (fun x_8 ex_8 => ?_)
          refine lv_ldc2 (own := RX4) (v := 97) hx hb hown (hts _ qk_X4_40) dX4_init_95 ?_
          refine lv_lsub hx hb dX4_init_98 ?_
          refine lv_topl (fun x_9 ex_9 => ?_)
          refine lv_lconst (v := 1) hx hb dX4_init_99 rfl ?_
          refine lv_ladd hx hb dX4_init_100 ?_
          refine lv_topl (fun x_10 ex_10 => ?_)
          refine lv_lstore_n (lv' := [(1, .long x_10), (4, .int (nI i)), (3, .int (nI m1)), (0, .ref h)]) hx hb dX4_init_101 rfl hl (by decide) rfl (fun ls hl => ?_)
          refine lv_iinc (v := nI (i + 1)) (lv' := [(4, .int (nI (i + 1))), (1, .long x_10), (3, .int (nI m1)), (0, .ref h)]) hx hb dX4_init_102 hl (k := 1) rfl (nI_1 i) (by decide) rfl (fun ls hl => ?_)
          refine lv_goto (tgt := 38) hx hb dX4_init_105 (by decide) ?_
          exact ih (i + 1) _ _ _ _ _ _ (by omega) (by have := rd_lt c_3 hm1; omega) (hP.sub [0, 1, 2] rfl) (hD.sub [0, 1, 2] rfl rfl) hS (lv_sub hl [0, 2, 1, 3] rfl)
        ·
          refine lv_aload_n hx hb dX4_init_66 rfl (lv_at hl 3 rfl) ?_
          refine va_get (D := D) (ci := 4) (v := .ref a_2) (C := RX4) (T := TX4) (N := 12) hx hb hts iX4 hown hK hP 0 rfl rfl 1 (by decide) (hts _ qf_X4_15) (fun _ h => h) rfl dX4_init_67 ?_
          refine lv_iload_n hx hb dX4_init_70 rfl (lv_at hl 1 rfl) ?_
          refine lv_lload_n hx hb dX4_init_71 rfl (lv_at hl 2 rfl) ?_
          refine va_last hx hb hK hP hD hS 2 2 rfl rfl (rd_in c_3 hm1) dX4_init_72 (fun H locs hP hD hS => ?_)
          have hP : va_P D vwCl [(h, .inr (4, [.ref a_1, .ref a_2, .int 0, .int 0, .int 0, .int 0, .int 0, .int 0, .int 0, .long 0, .int (-1), .int (-1)])), (a_1, .inl (k 0, 900, .inl (fun _ => 0))), (a_2, .inl (k 2, 25, .inr (.inl (vp_updL g (nI m1 : Int32).toNatClampNeg cd))))] H := hP
          have hD : va_D A [(h, .inr (4, [.ref a_1, .ref a_2, .int 0, .int 0, .int 0, .int 0, .int 0, .int 0, .int 0, .long 0, .int (-1), .int (-1)])), (a_1, .inl (k 0, 900, .inl (fun _ => 0))), (a_2, .inl (k 2, 25, .inr (.inl (vp_updL g (nI m1 : Int32).toNatClampNeg cd))))] := hD
          refine lv_iinc (v := nI (m1 + 1)) (lv' := [(3, .int (nI (m1 + 1))), (4, .int (nI i)), (1, .long cd), (0, .ref h)]) hx hb dX4_init_73 hl (k := 1) rfl (nI_1 m1) (by decide) rfl (fun ls hl => ?_)
          refine lv_lconst (v := 0) hx hb dX4_init_76 rfl ?_
          refine lv_lstore_n (lv' := [(1, .long 0), (3, .int (nI (m1 + 1))), (4, .int (nI i)), (0, .ref h)]) hx hb dX4_init_77 rfl hl (by decide) rfl (fun ls hl => ?_)
          refine lv_goto (tgt := 102) hx hb dX4_init_78 (by decide) ?_
          refine lv_iinc (v := nI (i + 1)) (lv' := [(4, .int (nI (i + 1))), (1, .long 0), (3, .int (nI (m1 + 1))), (0, .ref h)]) hx hb dX4_init_102 hl (k := 2) rfl (nI_1 i) (by decide) rfl (fun ls hl => ?_)
          refine lv_goto (tgt := 38) hx hb dX4_init_105 (by decide) ?_
          exact ih (i + 1) _ _ _ _ _ _ (by omega) (by have := rd_lt c_3 hm1; omega) (hP.sub [0, 1, 2] rfl) (hD.sub [0, 1, 2] rfl rfl) hS (lv_sub hl [0, 2, 1, 3] rfl)
  exact HL 124 0 _ 0 _ _ _ _ (by omega) (by decide) (hP.sub [0, 1, 2] rfl) (hD.sub [0, 1, 2] rfl rfl) hS (lv_sub hl [0, 1, 2, 3] rfl)
