set_option maxHeartbeats 4000000 in
set_option maxRecDepth 100000 in
theorem k_spread (l : Launch) (D : va_G) (k : Nat → ClassId) (hn1 kn te ho co : Nat) (h hs : Nat) (r0 : Ry) {P0 : RP_} (hRT : (RT k) P0 r0) (fs : List Value) (hf hg : Nat) (f1 : fs[1]? = some (.ref hf)) (f2 : fs[2]? = some (.ref hg)) (f g : Nat → Int32) (n : Int) (hn : n ≤ 6) (hx0 : FXI f n) (ni : Int) (f4 : fs[4]? = some (.int (iZ ni))) (hni : 0 ≤ ni ∧ ni ≤ 8) (hQ0 : P0 = RX f g n ni) (f3 : fs[3]? = some (.int (iZ n))) (hn0 : 0 ≤ n) (kf tf hf2 : Nat → Int32) (rgk : rgI kf (-1) 420 6) (rgt : rgI tf (-1) 5 6) (a w : Int) (ha0 : 0 ≤ a ∧ a < n) (hw : 0 ≤ w ∧ w ≤ 400) : XD (σ := (Int × Ry × (Nat → Nat → Int32))) l yX2_spread cX2_spread 6 none 3 r0 D k [.ref hn1, .int (iZ a), .int (iZ w)] [(hn1, .inr (2, [.ref hs, .ref h, .ref kn, .ref te, .ref ho, .ref co])), (h, .inr (3, [.ref hs, .long r0.op, r0.vA, r0.vL])), (kn, .inl (k 1, 6, .inl kf)), (te, .inl (k 1, 6, .inl tf)), (ho, .inl (k 1, 6, .inl hf2)), (hs, .inr (5, fs)), (hf, .inl (k 1, 36, .inl f)), (hg, .inl (k 1, 32, .inl g))] (fun u => u.2.1) (fun _ => none) (fun u => RT k (RX f g n ni) u.2.1 ∧ rgI (u.2.2 0) (-1) 420 6 ∧ rgI (u.2.2 1) (-1) 5 6 ∧ ∃ B9' : Int → Int, isNW (arF f g ni) n a w (cK (u.2.2 0)) (gz (u.2.2 1)) B9' ∧ ∀ o : Int, 0 ≤ o → o < n → (gz (u.2.2 0) o = -1 → gz (u.2.2 2) o = -1) ∧ (¬ gz (u.2.2 0) o = -1 → gz (u.2.2 2) o = B9' o)) (fun u => [(hn1, .inr (2, [.ref hs, .ref h, .ref kn, .ref te, .ref ho, .ref co])), (h, .inr (3, [.ref hs, .long u.2.1.op, u.2.1.vA, u.2.1.vL])), (kn, .inl (k 1, 6, .inl (u.2.2 0))), (te, .inl (k 1, 6, .inl (u.2.2 1))), (ho, .inl (k 1, 6, .inl (u.2.2 2))), (hs, .inr (5, fs)), (hf, .inl (k 1, 36, .inl f)), (hg, .inl (k 1, 32, .inl g))]) := by
  refine MX (by decide) (Nat.le_of_ble_eq_true rfl) (fun p e s m below meth c ls A hx hb hml hr hlocks hin hts hown hKK hP hD hS hA hl => ?_)
  have hK := hKK.1
  have hl : lv_has ls 6 [(0, .ref hn1), (1, .int (iZ a)), (2, .int (iZ w))] := hl
  subst hQ0
  refine lv_aload_n hx hb dX2_spread_0 rfl (lv_at hl 0 rfl) ?_
  refine va_get (D := D) (ci := 2) (v := .ref kn) (C := RX2) (T := TX2) (N := 6) hx hb hts iX2 hown hK hP 0 rfl rfl 2 (bl rfl) (hts _ qf_X2_9) (fun _ h => h) rfl dX2_spread_1 ?_
  refine lv_iconst (v := iZ (-1)) hx hb dX2_spread_4 rfl ?_
  refine CKS (As := [.ref kn, .int (iZ (-1))]) (rest := []) (ws := [(hn1, .inr (2, [.ref hs, .ref h, .ref kn, .ref te, .ref ho, .ref co])), (h, .inr (3, [.ref hs, .long r0.op, r0.vA, r0.vL])), (kn, .inl (k 1, 6, .inl kf)), (te, .inl (k 1, 6, .inl tf)), (ho, .inl (k 1, 6, .inl hf2)), (hs, .inr (5, fs)), (hf, .inl (k 1, 36, .inl f)), (hg, .inl (k 1, 32, .inl g))]) (tl := r0.tl) (wc := _) (wr := [(hn1, .inr (2, [.ref hs, .ref h, .ref kn, .ref te, .ref ho, .ref co])), (h, .inr (3, [.ref hs, .long r0.op, r0.vA, r0.vL])), (te, .inl (k 1, 6, .inl tf)), (ho, .inl (k 1, 6, .inl hf2)), (hs, .inr (5, fs)), (hf, .inl (k 1, 36, .inl f)), (hg, .inl (k 1, 32, .inl g))]) hx hb hml hown hts hKK hP hD hS hA (k_fillI l D k kn 6 (by decide) kf (-1) ⟨by omega, by omega⟩) ci_J7_fill_53178 qm_X2_32 ⟨Nat.le_of_ble_eq_true rfl, Nat.le_of_ble_eq_true rfl⟩ ⟨cz_le _ _, sz_le _ _⟩ [2] [0, 1, 3, 4, 5, 6, 7] rfl rfl rfl rfl rfl (dj rfl) rfl hl.1 rfl (Nat.le_of_ble_eq_true rfl) dX2_spread_5 (fun u_1 H locs hφ hP hD hS => ?_)
  have h_3 := hφ
  have rgh_3 : rgI u_1 (-1) 420 6 := fun e h1 h2 => by rw [h_3 e h1 h2]; omega
  refine W.eq (g2 := F0 m 8 ls []) rfl ?_
  refine lv_aload_n hx hb dX2_spread_8 rfl (lv_at hl 0 rfl) ?_
  refine va_get (D := D) (ci := 2) (v := .ref te) (C := RX2) (T := TX2) (N := 6) hx hb hts iX2 hown hK hP 0 rfl rfl 3 (bl rfl) (hts _ qf_X2_15) (fun _ h => h) rfl dX2_spread_9 ?_
  refine lv_iconst (v := iZ (-1)) hx hb dX2_spread_12 rfl ?_
  refine CKS (As := [.ref te, .int (iZ (-1))]) (rest := []) (ws := [(hn1, .inr (2, [.ref hs, .ref h, .ref kn, .ref te, .ref ho, .ref co])), (h, .inr (3, [.ref hs, .long r0.op, r0.vA, r0.vL])), (te, .inl (k 1, 6, .inl tf)), (ho, .inl (k 1, 6, .inl hf2)), (hs, .inr (5, fs)), (hf, .inl (k 1, 36, .inl f)), (hg, .inl (k 1, 32, .inl g)), (kn, .inl (k 1, 6, .inl u_1))]) (tl := r0.tl) (wc := _) (wr := [(hn1, .inr (2, [.ref hs, .ref h, .ref kn, .ref te, .ref ho, .ref co])), (h, .inr (3, [.ref hs, .long r0.op, r0.vA, r0.vL])), (ho, .inl (k 1, 6, .inl hf2)), (hs, .inr (5, fs)), (hf, .inl (k 1, 36, .inl f)), (hg, .inl (k 1, 32, .inl g)), (kn, .inl (k 1, 6, .inl u_1))]) hx hb hml hown hts hKK hP hD hS hA (k_fillI l D k te 6 (by decide) tf (-1) ⟨by omega, by omega⟩) ci_J7_fill_53178 qm_X2_32 ⟨Nat.le_of_ble_eq_true rfl, Nat.le_of_ble_eq_true rfl⟩ ⟨cz_le _ _, sz_le _ _⟩ [2] [0, 1, 3, 4, 5, 6, 7] rfl rfl rfl rfl rfl (dj rfl) rfl hl.1 rfl (Nat.le_of_ble_eq_true rfl) dX2_spread_13 (fun u_4 H locs hφ hP hD hS => ?_)
  have h_6 := hφ
  have rgh_6 : rgI u_4 (-1) 5 6 := fun e h1 h2 => by rw [h_6 e h1 h2]; omega
  refine W.eq (g2 := F0 m 16 ls []) rfl ?_
  refine lv_aload_n hx hb dX2_spread_16 rfl (lv_at hl 0 rfl) ?_
  refine va_get (D := D) (ci := 2) (v := .ref ho) (C := RX2) (T := TX2) (N := 6) hx hb hts iX2 hown hK hP 0 rfl rfl 4 (bl rfl) (hts _ qf_X2_18) (fun _ h => h) rfl dX2_spread_17 ?_
  refine lv_iconst (v := iZ (-1)) hx hb dX2_spread_20 rfl ?_
  refine CKS (As := [.ref ho, .int (iZ (-1))]) (rest := []) (ws := [(hn1, .inr (2, [.ref hs, .ref h, .ref kn, .ref te, .ref ho, .ref co])), (h, .inr (3, [.ref hs, .long r0.op, r0.vA, r0.vL])), (ho, .inl (k 1, 6, .inl hf2)), (hs, .inr (5, fs)), (hf, .inl (k 1, 36, .inl f)), (hg, .inl (k 1, 32, .inl g)), (kn, .inl (k 1, 6, .inl u_1)), (te, .inl (k 1, 6, .inl u_4))]) (tl := r0.tl) (wc := _) (wr := [(hn1, .inr (2, [.ref hs, .ref h, .ref kn, .ref te, .ref ho, .ref co])), (h, .inr (3, [.ref hs, .long r0.op, r0.vA, r0.vL])), (hs, .inr (5, fs)), (hf, .inl (k 1, 36, .inl f)), (hg, .inl (k 1, 32, .inl g)), (kn, .inl (k 1, 6, .inl u_1)), (te, .inl (k 1, 6, .inl u_4))]) hx hb hml hown hts hKK hP hD hS hA (k_fillI l D k ho 6 (by decide) hf2 (-1) ⟨by omega, by omega⟩) ci_J7_fill_53178 qm_X2_32 ⟨Nat.le_of_ble_eq_true rfl, Nat.le_of_ble_eq_true rfl⟩ ⟨cz_le _ _, sz_le _ _⟩ [2] [0, 1, 3, 4, 5, 6, 7] rfl rfl rfl rfl rfl (dj rfl) rfl hl.1 rfl (Nat.le_of_ble_eq_true rfl) dX2_spread_21 (fun u_7 H locs hφ hP hD hS => ?_)
  have h_9 := hφ
  refine W.eq (g2 := F0 m 24 ls []) rfl ?_
  refine lv_aload_n hx hb dX2_spread_24 rfl (lv_at hl 0 rfl) ?_
  refine va_get (D := D) (ci := 2) (v := .ref kn) (C := RX2) (T := TX2) (N := 6) hx hb hts iX2 hown hK hP 0 rfl rfl 2 (bl rfl) (hts _ qf_X2_9) (fun _ h => h) rfl dX2_spread_25 ?_
  refine lv_iload_n hx hb dX2_spread_28 rfl (lv_at hl 1 rfl) ?_
  refine lv_iload_n hx hb dX2_spread_29 rfl (lv_at hl 2 rfl) ?_
  refine va_iast hx hb hK hP hD hS 5 1 rfl rfl (zin (e := a) (n := 6) ⟨by omega, by omega⟩ (bl rfl)) dX2_spread_30 (fun H locs hP hD hS => ?_)
  obtain ⟨f_10, hf_10⟩ : ∃ gg9, gg9 = upd u_1 (iZ a).toNatClampNeg (iZ w) := ⟨_, rfl⟩
  rw [← hf_10] at hP hD
  have rgf_10 := rg_upd rgh_3 hf_10 (by omega) ⟨by omega, by omega⟩ ⟨by omega, by omega⟩
  refine lv_iconst (v := iZ 0) hx hb dX2_spread_31 rfl ?_
  refine lv_istore_n (lv' := [(3, .int (iZ 0)), (0, .ref hn1), (1, .int (iZ a)), (2, .int (iZ w))]) hx hb dX2_spread_32 rfl hl (bl rfl) rfl (fun ls hl => ?_)
  refine lv_iconst (v := iZ 0) hx hb dX2_spread_33 rfl ?_
  refine lv_istore (lv' := [(4, .int (iZ 0)), (3, .int (iZ 0)), (0, .ref hn1), (1, .int (iZ a)), (2, .int (iZ w))]) hx hb dX2_spread_34 hl (bl rfl) rfl (fun ls hl => ?_)
  have hns0 : NWS f g ni n a w 0 0 f_10 u_4 u_7 (fun _ => 0) := NWS_0 ⟨by omega, by omega⟩ ha0 hn (fun o9 h1 h2 => by rw [gz_up hf_10 ⟨by omega, by omega⟩ ⟨by omega, by omega⟩ h1, h_3 o9 h1 (by omega)]) (fun o9 h1 h2 => h_6 o9 h1 (by omega)) (fun o9 h1 h2 => h_9 o9 h1 (by omega))
  have HL1 : ∀ (fu : Nat) (r2 : Ry) (i t3 : Int) (B2 : Int → Int) (k2 : Nat → Int32) (t2 : Nat → Int32) (o2 : Nat → Int32) (H : Heap) (locs : List Loc) (ls : Array Slot), (n + 1 - i) < (fu : Int) → RT k (RX f g n ni) r2 → (r2.b = true → r0.b = true) → 0 ≤ i → i ≤ n → (NWS f g ni n a w t3 i k2 t2 o2 B2 ∧ rgI o2 (-1) (i - 1) 6) → rgI k2 (-1) 420 6 → rgI t2 (-1) 5 6 → va_P D vwCl ((hn1, .inr (2, [.ref hs, .ref h, .ref kn, .ref te, .ref ho, .ref co])) :: (h, .inr (3, [.ref hs, .long r2.op, r2.vA, r2.vL])) :: (hs, .inr (5, fs)) :: (hf, .inl (k 1, 36, .inl f)) :: (hg, .inl (k 1, 32, .inl g)) :: (kn, .inl (k 1, 6, .inl k2)) :: (te, .inl (k 1, 6, .inl t2)) :: (ho, .inl (k 1, 6, .inl o2)) :: r2.tl) H → va_D A ((hn1, .inr (2, [.ref hs, .ref h, .ref kn, .ref te, .ref ho, .ref co])) :: (h, .inr (3, [.ref hs, .long r2.op, r2.vA, r2.vL])) :: (hs, .inr (5, fs)) :: (hf, .inl (k 1, 36, .inl f)) :: (hg, .inl (k 1, 32, .inl g)) :: (kn, .inl (k 1, 6, .inl k2)) :: (te, .inl (k 1, 6, .inl t2)) :: (ho, .inl (k 1, 6, .inl o2)) :: r2.tl) → va_S A s.heap H locs → lv_has ls 6 [(4, .int (iZ i)), (3, .int (iZ t3)), (0, .ref hn1), (1, .int (iZ a)), (2, .int (iZ w))] → W p l e (rj 3 (rcN r0.b) (rsN r0.b)) s m [.ref hn1, .int (iZ a), .int (iZ w)].toArray below meth c H locs (cz r0.b r2.b) (sz r0.b r2.b) (MQ below (QX (σ := (Int × Ry × (Nat → Nat → Int32))) r0.b (fun u => u.2.1) (fun _ => none) (fun u => RT k (RX f g n ni) u.2.1 ∧ rgI (u.2.2 0) (-1) 420 6 ∧ rgI (u.2.2 1) (-1) 5 6 ∧ ∃ B9' : Int → Int, isNW (arF f g ni) n a w (cK (u.2.2 0)) (gz (u.2.2 1)) B9' ∧ ∀ o : Int, 0 ≤ o → o < n → (gz (u.2.2 0) o = -1 → gz (u.2.2 2) o = -1) ∧ (¬ gz (u.2.2 0) o = -1 → gz (u.2.2 2) o = B9' o)) (fun u => [(hn1, .inr (2, [.ref hs, .ref h, .ref kn, .ref te, .ref ho, .ref co])), (h, .inr (3, [.ref hs, .long u.2.1.op, u.2.1.vA, u.2.1.vL])), (kn, .inl (k 1, 6, .inl (u.2.2 0))), (te, .inl (k 1, 6, .inl (u.2.2 1))), (ho, .inl (k 1, 6, .inl (u.2.2 2))), (hs, .inr (5, fs)), (hf, .inl (k 1, 36, .inl f)), (hg, .inl (k 1, 32, .inl g))]) D A) [.ref hn1, .int (iZ a), .int (iZ w)].toArray s (rcN r0.b) (rsN r0.b) A) (F0 m 36 ls []) := by
    intro fu
    induction fu with
    | zero => intro r2 i t3 B2 k2 t2 o2 H locs ls hμ1 rtr2 hbr2 hi1 hi2 hqs rgk2 rgt2 hP hD hS hl; exact absurd hμ1 (by omega)
    | succ fu ih1 =>
      intro r2 i t3 B2 k2 t2 o2 H locs ls hμ1 rtr2 hbr2 hi1 hi2 hqs rgk2 rgt2 hP hD hS hl
      obtain ⟨hq2, hro⟩ := id hqs
      have ht3 := hq2.2.2.1
      refine lv_iload hx hb dX2_spread_36 (lv_at hl 0 rfl) ?_
      refine lv_aload_n hx hb dX2_spread_38 rfl (lv_at hl 2 rfl) ?_
      refine va_get (D := D) (ci := 2) (v := .ref hs) (C := RX2) (T := TX2) (N := 6) hx hb hts iX2 hown hK hP 0 rfl rfl 0 (bl rfl) (hts _ qf_X2_24) (fun _ h => h) rfl dX2_spread_39 ?_
      refine va_get (D := D) (ci := 5) (v := .int (iZ n)) (C := RX5) (T := TX5) (N := 7) hx hb hts iX5 hown hK hP 2 rfl rfl 3 (bl rfl) (hts _ qf_X2_38) (fun _ h => h) f3 dX2_spread_42 ?_
      refine lv_icmp_ge (tgt := 117) hx hb dX2_spread_45 rfl (fun c_11 => ?_) (fun c_11 => ?_)
      ·
        have c_11 := (zle (x := iZ n) (y := iZ i) rfl rfl ⟨by omega, by omega⟩ ⟨by omega, by omega⟩).mp c_11
        exact EXv hx hb hr hlocks hbr2 hS (0, r2, fun i => [k2, t2, o2].getD i (fun _ => 0)) rfl rfl ⟨rtr2, rgk2, rgt2, B2, NWS_e hq2 ⟨by omega, by omega⟩ rgk2 (Or.inr (by omega))⟩ (va_P.subT (pre := [(hn1, .inr (2, [.ref hs, .ref h, .ref kn, .ref te, .ref ho, .ref co])), (h, .inr (3, [.ref hs, .long r2.op, r2.vA, r2.vL])), (hs, .inr (5, fs)), (hf, .inl (k 1, 36, .inl f)), (hg, .inl (k 1, 32, .inl g)), (kn, .inl (k 1, 6, .inl k2)), (te, .inl (k 1, 6, .inl t2)), (ho, .inl (k 1, 6, .inl o2))]) (pre' := [(hn1, .inr (2, [.ref hs, .ref h, .ref kn, .ref te, .ref ho, .ref co])), (h, .inr (3, [.ref hs, .long r2.op, r2.vA, r2.vL])), (kn, .inl (k 1, 6, .inl k2)), (te, .inl (k 1, 6, .inl t2)), (ho, .inl (k 1, 6, .inl o2)), (hs, .inr (5, fs)), (hf, .inl (k 1, 36, .inl f)), (hg, .inl (k 1, 32, .inl g))]) (tl := r2.tl) hP [0, 1, 5, 6, 7, 2, 3, 4] rfl) (va_D.subT (pre := [(hn1, .inr (2, [.ref hs, .ref h, .ref kn, .ref te, .ref ho, .ref co])), (h, .inr (3, [.ref hs, .long r2.op, r2.vA, r2.vL])), (hs, .inr (5, fs)), (hf, .inl (k 1, 36, .inl f)), (hg, .inl (k 1, 32, .inl g)), (kn, .inl (k 1, 6, .inl k2)), (te, .inl (k 1, 6, .inl t2)), (ho, .inl (k 1, 6, .inl o2))]) (pre' := [(hn1, .inr (2, [.ref hs, .ref h, .ref kn, .ref te, .ref ho, .ref co])), (h, .inr (3, [.ref hs, .long r2.op, r2.vA, r2.vL])), (kn, .inl (k 1, 6, .inl k2)), (te, .inl (k 1, 6, .inl t2)), (ho, .inl (k 1, 6, .inl o2)), (hs, .inr (5, fs)), (hf, .inl (k 1, 36, .inl f)), (hg, .inl (k 1, 32, .inl g))]) (tl := r2.tl) hD [0, 1, 5, 6, 7, 2, 3, 4] rfl rfl) dX2_spread_117
      ·
        have c_11 := mt (zle (x := iZ n) (y := iZ i) rfl rfl ⟨by omega, by omega⟩ ⟨by omega, by omega⟩).mpr c_11
        refine lv_aload_n hx hb dX2_spread_48 rfl (lv_at hl 2 rfl) ?_
        refine lv_iload_n hx hb dX2_spread_49 rfl (lv_at hl 1 rfl) ?_
        refine CPV (As := [.int (iZ t3)]) (rest := []) hx hb hml hown hts hKK (hP.sub (ws' := [(hn1, .inr (2, [.ref hs, .ref h, .ref kn, .ref te, .ref ho, .ref co])), (hs, .inr (5, fs)), (kn, .inl (k 1, 6, .inl k2))]) [0, 2, 5] rfl) (k_soonest l D k hn1 kn te ho co hs h fs n f3 ⟨by omega, by omega⟩ k2 rgk2 t3) ci_X2_soonest qm_X2_44 ⟨Nat.le_of_ble_eq_true rfl, Nat.le_of_ble_eq_true rfl⟩ ⟨cz_le _ _, sz_le _ _⟩ 0 rfl rfl rfl hl.1 rfl (Nat.le_of_ble_eq_true rfl) dX2_spread_50 (fun z_12 hz_12 => ?_)
        refine lv_istore (lv' := [(5, .int (iZ z_12)), (4, .int (iZ i)), (3, .int (iZ t3)), (0, .ref hn1), (1, .int (iZ a)), (2, .int (iZ w))]) hx hb dX2_spread_53 hl (bl rfl) rfl (fun ls hl => ?_)
        refine lv_iload hx hb dX2_spread_55 (lv_at hl 0 rfl) ?_
        refine lv_iconst (v := iZ (-1)) hx hb dX2_spread_57 rfl ?_
        refine lv_icmp_ne (tgt := 62) hx hb dX2_spread_58 rfl (fun c_13 => ?_) (fun c_13 => ?_)
        ·
          have c_13 := mt (zeq (x := iZ z_12) (y := iZ (-1)) rfl rfl ⟨by omega, by omega⟩ wn_m1).mpr c_13
          refine lv_iload_n hx hb dX2_spread_62 rfl (lv_at hl 2 rfl) ?_
          refine lv_iconst (v := iZ 1) hx hb dX2_spread_63 rfl ?_
          refine lv_iload hx hb dX2_spread_64 (lv_at hl 0 rfl) ?_
          refine lv_ishl hx hb dX2_spread_66 ?_
          refine lv_topi (fun x_15 ex_15 => ?_)
          obtain ⟨z_14, hz_14, hz_14a, hz_14b⟩ := i32_z x_15
          subst hz_14
          refine lv_ior hx hb dX2_spread_67 ?_
          refine lv_topi (fun x_17 ex_17 => ?_)
          obtain ⟨z_16, hz_16, hz_16a, hz_16b⟩ := i32_z x_17
          subst hz_16
          refine lv_istore_n (lv' := [(3, .int (iZ z_16)), (5, .int (iZ z_12)), (4, .int (iZ i)), (0, .ref hn1), (1, .int (iZ a)), (2, .int (iZ w))]) hx hb dX2_spread_68 rfl hl (bl rfl) rfl (fun ls hl => ?_)
          refine lv_aload_n hx hb dX2_spread_69 rfl (lv_at hl 3 rfl) ?_
          refine va_get (D := D) (ci := 2) (v := .ref ho) (C := RX2) (T := TX2) (N := 6) hx hb hts iX2 hown hK hP 0 rfl rfl 4 (bl rfl) (hts _ qf_X2_18) (fun _ h => h) rfl dX2_spread_70 ?_
          refine lv_iload hx hb dX2_spread_73 (lv_at hl 1 rfl) ?_
          refine lv_aload_n hx hb dX2_spread_75 rfl (lv_at hl 3 rfl) ?_
          refine va_get (D := D) (ci := 2) (v := .ref te) (C := RX2) (T := TX2) (N := 6) hx hb hts iX2 hown hK hP 0 rfl rfl 3 (bl rfl) (hts _ qf_X2_15) (fun _ h => h) rfl dX2_spread_76 ?_
          refine lv_iload hx hb dX2_spread_79 (lv_at hl 1 rfl) ?_
          refine va_iald hx hb hK hP 6 1 rfl rfl (zin (e := z_12) (n := 6) ⟨by omega, by omega⟩ (bl rfl)) dX2_spread_81 ?_
          refine lv_topi (fun x_18 ex_18 => ?_)
          obtain rfl : x_18 = iZ (gz t2 z_12) := ex_18.trans (gz_eq ⟨by omega, by omega⟩)
          have h_19 := rgt2 z_12 (by omega) (by omega)
          refine lv_iconst (v := iZ (-1)) hx hb dX2_spread_82 rfl ?_
          refine lv_icmp_ne (tgt := 90) hx hb dX2_spread_83 rfl (fun c_20 => ?_) (fun c_20 => ?_)
          ·
            have c_20 := mt (zeq (x := iZ (gz t2 z_12)) (y := iZ (-1)) rfl rfl (gz_rg t2 z_12) wn_m1).mpr c_20
            refine lv_aload_n hx hb dX2_spread_90 rfl (lv_at hl 3 rfl) ?_
            refine va_get (D := D) (ci := 2) (v := .ref ho) (C := RX2) (T := TX2) (N := 6) hx hb hts iX2 hown hK hP 0 rfl rfl 4 (bl rfl) (hts _ qf_X2_18) (fun _ h => h) rfl dX2_spread_91 ?_
            refine lv_aload_n hx hb dX2_spread_94 rfl (lv_at hl 3 rfl) ?_
            refine va_get (D := D) (ci := 2) (v := .ref te) (C := RX2) (T := TX2) (N := 6) hx hb hts iX2 hown hK hP 0 rfl rfl 3 (bl rfl) (hts _ qf_X2_15) (fun _ h => h) rfl dX2_spread_95 ?_
            refine lv_iload hx hb dX2_spread_98 (lv_at hl 1 rfl) ?_
            refine va_iald hx hb hK hP 6 1 rfl rfl (zin (e := z_12) (n := 6) ⟨by omega, by omega⟩ (bl rfl)) dX2_spread_100 ?_
            refine lv_topi (fun x_21 ex_21 => ?_)
            obtain rfl : x_21 = iZ (gz t2 z_12) := ex_21.trans (gz_eq ⟨by omega, by omega⟩)
            have h_22 := rgt2 z_12 (by omega) (by omega)
            refine va_iald hx hb hK hP 7 1 rfl rfl (zin (e := (gz t2 z_12)) (n := 6) ⟨by omega, by omega⟩ (bl rfl)) dX2_spread_101 ?_
            refine lv_topi (fun x_23 ex_23 => ?_)
            obtain rfl : x_23 = iZ (gz o2 (gz t2 z_12)) := ex_23.trans (gz_eq ⟨by omega, by omega⟩)
            have h_24 := gz_rg o2 (gz t2 z_12)
            have hb9 := hro (gz t2 z_12) (by omega) (by omega)
            refine lv_iconst (v := iZ 1) hx hb dX2_spread_102 rfl ?_
            refine lv_iadd hx hb dX2_spread_103 ?_
            refine lv_topi (fun x_25 ex_25 => ?_)
            obtain rfl : x_25 = iZ ((gz o2 (gz t2 z_12)) + 1) := ex_25.trans (iZ_add (gz o2 (gz t2 z_12)) 1)
            refine va_iast hx hb hK hP hD hS 7 1 rfl rfl (zin (e := z_12) (n := 6) ⟨by omega, by omega⟩ (bl rfl)) dX2_spread_104 (fun H locs hP hD hS => ?_)
            obtain ⟨f_26, hf_26⟩ : ∃ gg9, gg9 = upd o2 (iZ z_12).toNatClampNeg (iZ ((gz o2 (gz t2 z_12)) + 1)) := ⟨_, rfl⟩
            rw [← hf_26] at hP hD
            refine lv_aload_n hx hb dX2_spread_105 rfl (lv_at hl 3 rfl) ?_
            refine lv_iload hx hb dX2_spread_106 (lv_at hl 1 rfl) ?_
            refine CXV (r := r2) (b0 := r0.b) (As := [.int (iZ z_12)]) (rest := []) (ws := [(hn1, .inr (2, [.ref hs, .ref h, .ref kn, .ref te, .ref ho, .ref co])), (h, .inr (3, [.ref hs, .long r2.op, r2.vA, r2.vL])), (hs, .inr (5, fs)), (hf, .inl (k 1, 36, .inl f)), (hg, .inl (k 1, 32, .inl g)), (kn, .inl (k 1, 6, .inl k2)), (te, .inl (k 1, 6, .inl t2)), (ho, .inl (k 1, 6, .inl f_26))]) (wc := _) (wr := [(ho, .inl (k 1, 6, .inl f_26))]) hx hb hml hown hts hKK hP hD hS hA hbr2 (k_tellOn l D k hn1 kn te ho co h hs r2 rtr2 fs hf hg f1 f2 f g n hn hx0 ni f4 hni rfl f3 hn0 k2 t2 rgk2 rgt2 z_12 ⟨by omega, by omega⟩ a w (fun r => Tb z_16 r = true) B2 ha0 (Tb_p hq2.2.2.1 ⟨by omega, by omega⟩ ex_15 ex_17) (NWS_p hq2 hn ha0 (by omega) hz_12.2 rgk2 ex_15 ex_17)) ci_X2_tellOn qm_X2_48 ⟨Nat.le_of_ble_eq_true rfl, Nat.le_of_ble_eq_true rfl⟩ ⟨rfl, rfl⟩ [0, 1, 5, 6, 2, 3, 4] [7] rfl rfl rfl rfl rfl (dj rfl) 0 rfl rfl rfl hl.1 rfl (Nat.le_of_ble_eq_true rfl) dX2_spread_108 (fun u_27 H locs hφ hP hD hS hb1 => ?_)
            obtain ⟨z_29, r_30, F_31⟩ := u_27
            obtain ⟨rtr_30, q0h_32, q1h_32, ⟨bBh_32, nqh_32, nbh_32⟩⟩ := hφ
            have rtr_30 : RT k (RX f g n ni) r_30 := rtr_30
            have hbh_28 : r_30.b = true → r0.b = true := fun h => hbr2 (hb1 h)
            refine W.ceq (cells' := cz r0.b r_30.b) (slots' := sz r0.b r_30.b) rfl rfl ?_
            refine W.eq (g2 := F0 m 111 ls []) rfl ?_
            refine lv_iinc (v := iZ (i + 1)) (lv' := [(4, .int (iZ (i + 1))), (3, .int (iZ z_16)), (5, .int (iZ z_12)), (0, .ref hn1), (1, .int (iZ a)), (2, .int (iZ w))]) hx hb dX2_spread_111 hl (k := 2) rfl (iZ_add i 1) (by decide) rfl (fun ls hl => ?_)
            refine lv_goto (tgt := 36) hx hb dX2_spread_114 rfl ?_
            exact ih1  r_30 _ _ bBh_32 _ _ _ _ _ _ (by omega) rtr_30 hbh_28 (by omega) (by omega) ⟨NWS_t hq2 hn (by omega) hz_12.2 rgk2 ex_15 ex_17 ⟨hz_16a, hz_16b⟩ nqh_32 nbh_32 (by omega) hf_26 ⟨by omega, by omega⟩, fun e9 h1 h2 => by rw [gz_up hf_26 ⟨by omega, by omega⟩ ⟨by omega, by omega⟩ h1]; have d9 := hro e9 h1 h2; split <;> omega⟩ q0h_32 q1h_32 (va_P.subT (pre := [(ho, .inl (k 1, 6, .inl f_26)), (hn1, .inr (2, [.ref hs, .ref h, .ref kn, .ref te, .ref ho, .ref co])), (h, .inr (3, [.ref hs, .long r_30.op, r_30.vA, r_30.vL])), (kn, .inl (k 1, 6, .inl (F_31 0))), (te, .inl (k 1, 6, .inl (F_31 1))), (hs, .inr (5, fs)), (hf, .inl (k 1, 36, .inl f)), (hg, .inl (k 1, 32, .inl g))]) (pre' := [(hn1, .inr (2, [.ref hs, .ref h, .ref kn, .ref te, .ref ho, .ref co])), (h, .inr (3, [.ref hs, .long r_30.op, r_30.vA, r_30.vL])), (hs, .inr (5, fs)), (hf, .inl (k 1, 36, .inl f)), (hg, .inl (k 1, 32, .inl g)), (kn, .inl (k 1, 6, .inl (F_31 0))), (te, .inl (k 1, 6, .inl (F_31 1))), (ho, .inl (k 1, 6, .inl f_26))]) (tl := r_30.tl) hP [1, 2, 5, 6, 7, 3, 4, 0] rfl) (va_D.subT (pre := [(ho, .inl (k 1, 6, .inl f_26)), (hn1, .inr (2, [.ref hs, .ref h, .ref kn, .ref te, .ref ho, .ref co])), (h, .inr (3, [.ref hs, .long r_30.op, r_30.vA, r_30.vL])), (kn, .inl (k 1, 6, .inl (F_31 0))), (te, .inl (k 1, 6, .inl (F_31 1))), (hs, .inr (5, fs)), (hf, .inl (k 1, 36, .inl f)), (hg, .inl (k 1, 32, .inl g))]) (pre' := [(hn1, .inr (2, [.ref hs, .ref h, .ref kn, .ref te, .ref ho, .ref co])), (h, .inr (3, [.ref hs, .long r_30.op, r_30.vA, r_30.vL])), (hs, .inr (5, fs)), (hf, .inl (k 1, 36, .inl f)), (hg, .inl (k 1, 32, .inl g)), (kn, .inl (k 1, 6, .inl (F_31 0))), (te, .inl (k 1, 6, .inl (F_31 1))), (ho, .inl (k 1, 6, .inl f_26))]) (tl := r_30.tl) hD [1, 2, 5, 6, 7, 3, 4, 0] rfl rfl) hS (lv_sub hl [0, 1, 3, 4, 5] rfl)
          ·
            have c_20 := (zeq (x := iZ (gz t2 z_12)) (y := iZ (-1)) rfl rfl (gz_rg t2 z_12) wn_m1).mp c_20
            refine lv_iconst (v := iZ 0) hx hb dX2_spread_86 rfl ?_
            refine lv_goto (tgt := 104) hx hb dX2_spread_87 rfl ?_
            refine va_iast hx hb hK hP hD hS 7 1 rfl rfl (zin (e := z_12) (n := 6) ⟨by omega, by omega⟩ (bl rfl)) dX2_spread_104 (fun H locs hP hD hS => ?_)
            obtain ⟨f_33, hf_33⟩ : ∃ gg9, gg9 = upd o2 (iZ z_12).toNatClampNeg (iZ 0) := ⟨_, rfl⟩
            rw [← hf_33] at hP hD
            refine lv_aload_n hx hb dX2_spread_105 rfl (lv_at hl 3 rfl) ?_
            refine lv_iload hx hb dX2_spread_106 (lv_at hl 1 rfl) ?_
            refine CXV (r := r2) (b0 := r0.b) (As := [.int (iZ z_12)]) (rest := []) (ws := [(hn1, .inr (2, [.ref hs, .ref h, .ref kn, .ref te, .ref ho, .ref co])), (h, .inr (3, [.ref hs, .long r2.op, r2.vA, r2.vL])), (hs, .inr (5, fs)), (hf, .inl (k 1, 36, .inl f)), (hg, .inl (k 1, 32, .inl g)), (kn, .inl (k 1, 6, .inl k2)), (te, .inl (k 1, 6, .inl t2)), (ho, .inl (k 1, 6, .inl f_33))]) (wc := _) (wr := [(ho, .inl (k 1, 6, .inl f_33))]) hx hb hml hown hts hKK hP hD hS hA hbr2 (k_tellOn l D k hn1 kn te ho co h hs r2 rtr2 fs hf hg f1 f2 f g n hn hx0 ni f4 hni rfl f3 hn0 k2 t2 rgk2 rgt2 z_12 ⟨by omega, by omega⟩ a w (fun r => Tb z_16 r = true) B2 ha0 (Tb_p hq2.2.2.1 ⟨by omega, by omega⟩ ex_15 ex_17) (NWS_p hq2 hn ha0 (by omega) hz_12.2 rgk2 ex_15 ex_17)) ci_X2_tellOn qm_X2_48 ⟨Nat.le_of_ble_eq_true rfl, Nat.le_of_ble_eq_true rfl⟩ ⟨rfl, rfl⟩ [0, 1, 5, 6, 2, 3, 4] [7] rfl rfl rfl rfl rfl (dj rfl) 0 rfl rfl rfl hl.1 rfl (Nat.le_of_ble_eq_true rfl) dX2_spread_108 (fun u_34 H locs hφ hP hD hS hb1 => ?_)
            obtain ⟨z_36, r_37, F_38⟩ := u_34
            obtain ⟨rtr_37, q0h_39, q1h_39, ⟨bBh_39, nqh_39, nbh_39⟩⟩ := hφ
            have rtr_37 : RT k (RX f g n ni) r_37 := rtr_37
            have hbh_35 : r_37.b = true → r0.b = true := fun h => hbr2 (hb1 h)
            refine W.ceq (cells' := cz r0.b r_37.b) (slots' := sz r0.b r_37.b) rfl rfl ?_
            refine W.eq (g2 := F0 m 111 ls []) rfl ?_
            refine lv_iinc (v := iZ (i + 1)) (lv' := [(4, .int (iZ (i + 1))), (3, .int (iZ z_16)), (5, .int (iZ z_12)), (0, .ref hn1), (1, .int (iZ a)), (2, .int (iZ w))]) hx hb dX2_spread_111 hl (k := 2) rfl (iZ_add i 1) (by decide) rfl (fun ls hl => ?_)
            refine lv_goto (tgt := 36) hx hb dX2_spread_114 rfl ?_
            exact ih1  r_37 _ _ bBh_39 _ _ _ _ _ _ (by omega) rtr_37 hbh_35 (by omega) (by omega) ⟨NWS_t hq2 hn (by omega) hz_12.2 rgk2 ex_15 ex_17 ⟨hz_16a, hz_16b⟩ nqh_39 nbh_39 (by omega) hf_33 ⟨by omega, by omega⟩, fun e9 h1 h2 => by rw [gz_up hf_33 ⟨by omega, by omega⟩ ⟨by omega, by omega⟩ h1]; have d9 := hro e9 h1 h2; split <;> omega⟩ q0h_39 q1h_39 (va_P.subT (pre := [(ho, .inl (k 1, 6, .inl f_33)), (hn1, .inr (2, [.ref hs, .ref h, .ref kn, .ref te, .ref ho, .ref co])), (h, .inr (3, [.ref hs, .long r_37.op, r_37.vA, r_37.vL])), (kn, .inl (k 1, 6, .inl (F_38 0))), (te, .inl (k 1, 6, .inl (F_38 1))), (hs, .inr (5, fs)), (hf, .inl (k 1, 36, .inl f)), (hg, .inl (k 1, 32, .inl g))]) (pre' := [(hn1, .inr (2, [.ref hs, .ref h, .ref kn, .ref te, .ref ho, .ref co])), (h, .inr (3, [.ref hs, .long r_37.op, r_37.vA, r_37.vL])), (hs, .inr (5, fs)), (hf, .inl (k 1, 36, .inl f)), (hg, .inl (k 1, 32, .inl g)), (kn, .inl (k 1, 6, .inl (F_38 0))), (te, .inl (k 1, 6, .inl (F_38 1))), (ho, .inl (k 1, 6, .inl f_33))]) (tl := r_37.tl) hP [1, 2, 5, 6, 7, 3, 4, 0] rfl) (va_D.subT (pre := [(ho, .inl (k 1, 6, .inl f_33)), (hn1, .inr (2, [.ref hs, .ref h, .ref kn, .ref te, .ref ho, .ref co])), (h, .inr (3, [.ref hs, .long r_37.op, r_37.vA, r_37.vL])), (kn, .inl (k 1, 6, .inl (F_38 0))), (te, .inl (k 1, 6, .inl (F_38 1))), (hs, .inr (5, fs)), (hf, .inl (k 1, 36, .inl f)), (hg, .inl (k 1, 32, .inl g))]) (pre' := [(hn1, .inr (2, [.ref hs, .ref h, .ref kn, .ref te, .ref ho, .ref co])), (h, .inr (3, [.ref hs, .long r_37.op, r_37.vA, r_37.vL])), (hs, .inr (5, fs)), (hf, .inl (k 1, 36, .inl f)), (hg, .inl (k 1, 32, .inl g)), (kn, .inl (k 1, 6, .inl (F_38 0))), (te, .inl (k 1, 6, .inl (F_38 1))), (ho, .inl (k 1, 6, .inl f_33))]) (tl := r_37.tl) hD [1, 2, 5, 6, 7, 3, 4, 0] rfl rfl) hS (lv_sub hl [0, 1, 3, 4, 5] rfl)
        ·
          have c_13 := (zeq (x := iZ z_12) (y := iZ (-1)) rfl rfl ⟨by omega, by omega⟩ wn_m1).mp c_13
          exact EXv hx hb hr hlocks hbr2 hS (0, r2, fun i => [k2, t2, o2].getD i (fun _ => 0)) rfl rfl ⟨rtr2, rgk2, rgt2, B2, NWS_e hq2 ⟨by omega, by omega⟩ rgk2 (Or.inl (SB_m1 hz_12.2 (by omega)))⟩ (va_P.subT (pre := [(hn1, .inr (2, [.ref hs, .ref h, .ref kn, .ref te, .ref ho, .ref co])), (h, .inr (3, [.ref hs, .long r2.op, r2.vA, r2.vL])), (hs, .inr (5, fs)), (hf, .inl (k 1, 36, .inl f)), (hg, .inl (k 1, 32, .inl g)), (kn, .inl (k 1, 6, .inl k2)), (te, .inl (k 1, 6, .inl t2)), (ho, .inl (k 1, 6, .inl o2))]) (pre' := [(hn1, .inr (2, [.ref hs, .ref h, .ref kn, .ref te, .ref ho, .ref co])), (h, .inr (3, [.ref hs, .long r2.op, r2.vA, r2.vL])), (kn, .inl (k 1, 6, .inl k2)), (te, .inl (k 1, 6, .inl t2)), (ho, .inl (k 1, 6, .inl o2)), (hs, .inr (5, fs)), (hf, .inl (k 1, 36, .inl f)), (hg, .inl (k 1, 32, .inl g))]) (tl := r2.tl) hP [0, 1, 5, 6, 7, 2, 3, 4] rfl) (va_D.subT (pre := [(hn1, .inr (2, [.ref hs, .ref h, .ref kn, .ref te, .ref ho, .ref co])), (h, .inr (3, [.ref hs, .long r2.op, r2.vA, r2.vL])), (hs, .inr (5, fs)), (hf, .inl (k 1, 36, .inl f)), (hg, .inl (k 1, 32, .inl g)), (kn, .inl (k 1, 6, .inl k2)), (te, .inl (k 1, 6, .inl t2)), (ho, .inl (k 1, 6, .inl o2))]) (pre' := [(hn1, .inr (2, [.ref hs, .ref h, .ref kn, .ref te, .ref ho, .ref co])), (h, .inr (3, [.ref hs, .long r2.op, r2.vA, r2.vL])), (kn, .inl (k 1, 6, .inl k2)), (te, .inl (k 1, 6, .inl t2)), (ho, .inl (k 1, 6, .inl o2)), (hs, .inr (5, fs)), (hf, .inl (k 1, 36, .inl f)), (hg, .inl (k 1, 32, .inl g))]) (tl := r2.tl) hD [0, 1, 5, 6, 7, 2, 3, 4] rfl rfl) dX2_spread_61
  exact HL1 8 r0 _ _ (fun _ => 0) _ _ _ _ _ _ (by omega) hRT (fun h => h) (by omega) (by omega) ⟨hns0, fun e9 h1 h2 => by rw [h_9 e9 h1 (by omega)]; omega⟩ rgf_10 rgh_6 (va_P.subT (pre := [(hn1, .inr (2, [.ref hs, .ref h, .ref kn, .ref te, .ref ho, .ref co])), (h, .inr (3, [.ref hs, .long r0.op, r0.vA, r0.vL])), (hs, .inr (5, fs)), (hf, .inl (k 1, 36, .inl f)), (hg, .inl (k 1, 32, .inl g)), (kn, .inl (k 1, 6, .inl f_10)), (te, .inl (k 1, 6, .inl u_4)), (ho, .inl (k 1, 6, .inl u_7))]) (pre' := [(hn1, .inr (2, [.ref hs, .ref h, .ref kn, .ref te, .ref ho, .ref co])), (h, .inr (3, [.ref hs, .long r0.op, r0.vA, r0.vL])), (hs, .inr (5, fs)), (hf, .inl (k 1, 36, .inl f)), (hg, .inl (k 1, 32, .inl g)), (kn, .inl (k 1, 6, .inl f_10)), (te, .inl (k 1, 6, .inl u_4)), (ho, .inl (k 1, 6, .inl u_7))]) (tl := r0.tl) hP [0, 1, 2, 3, 4, 5, 6, 7] rfl) (va_D.subT (pre := [(hn1, .inr (2, [.ref hs, .ref h, .ref kn, .ref te, .ref ho, .ref co])), (h, .inr (3, [.ref hs, .long r0.op, r0.vA, r0.vL])), (hs, .inr (5, fs)), (hf, .inl (k 1, 36, .inl f)), (hg, .inl (k 1, 32, .inl g)), (kn, .inl (k 1, 6, .inl f_10)), (te, .inl (k 1, 6, .inl u_4)), (ho, .inl (k 1, 6, .inl u_7))]) (pre' := [(hn1, .inr (2, [.ref hs, .ref h, .ref kn, .ref te, .ref ho, .ref co])), (h, .inr (3, [.ref hs, .long r0.op, r0.vA, r0.vL])), (hs, .inr (5, fs)), (hf, .inl (k 1, 36, .inl f)), (hg, .inl (k 1, 32, .inl g)), (kn, .inl (k 1, 6, .inl f_10)), (te, .inl (k 1, 6, .inl u_4)), (ho, .inl (k 1, 6, .inl u_7))]) (tl := r0.tl) hD [0, 1, 2, 3, 4, 5, 6, 7] rfl rfl) hS (lv_sub hl [0, 1, 2, 3, 4] rfl)