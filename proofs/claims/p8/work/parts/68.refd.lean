theorem gz_upc {f g : Nat → Int32} {e v j : Int} (hg : g = upd f (iZ e).toNatClampNeg (iZ v)) (he : 0 ≤ e ∧ e < 2147483648) (hv : -2147483648 ≤ v ∧ v < 2147483648) (hj : 0 ≤ j) : (j = e ∧ gz g j = v) ∨ (¬ j = e ∧ gz g j = gz f j) := by
  rw [gz_up hg he hv hj]
  by_cases h : j = e
  · rw [if_pos h]; exact Or.inl ⟨h, rfl⟩
  · rw [if_neg h]; exact Or.inr ⟨h, rfl⟩
/-- weeks in which rocks know; 1000000: never -/
def KR (f : Nat → Int32) (n : Int) : Prop := ∀ e : Int, 0 ≤ e → e < n → (0 ≤ gz f e ∧ gz f e ≤ 420) ∨ gz f e = 1000000
theorem KR.up {f g : Nat → Int32} {n e v : Int} (h : KR f n) (hg : g = upd f (iZ e).toNatClampNeg (iZ v)) (he : 0 ≤ e ∧ e < 2147483648) (hv : (0 ≤ v ∧ v ≤ 420) ∨ v = 1000000) : KR g n := by
  intro j h1 h2
  have c := gz_upc hg he ⟨by omega, by omega⟩ h1
  have := h j h1 h2
  omega
theorem KR.ext {f g : Nat → Int32} {n v : Int} (h : KR f n) (hg : g = upd f (iZ n).toNatClampNeg (iZ v)) (he : 0 ≤ n ∧ n < 2147483648) (hv : (0 ≤ v ∧ v ≤ 420) ∨ v = 1000000) : KR g (n + 1) := by
  intro j h1 h2
  have c := gz_upc hg he ⟨by omega, by omega⟩ h1
  rcases c with c | c
  · omega
  · have := h j h1 (by omega)
    omega
/-- a set of at most six has not this one -/
def bt (s r : Int) : Prop := (iZ s >>> (iZ r &&& 31)) &&& 1 = 0
theorem bt_of {s r z1 z2 : Int} (h1 : iZ z1 = iZ s >>> (iZ r &&& 31)) (h2 : iZ z2 = iZ z1 &&& iZ 1) (h : z2 = 0) : bt s r := by
  unfold bt
  rw [← h1]
  exact h2.symm.trans (by rw [h]; rfl)
theorem bt_key : ∀ s : Fin 64, ∀ r : Fin 6, (Int32.ofNat s.val >>> (Int32.ofNat r.val &&& 31)) &&& 1 = 0 → (s.val : Int) < (Int32.ofNat s.val ||| (1 <<< (Int32.ofNat r.val &&& 31))).toInt ∧ (Int32.ofNat s.val ||| (1 <<< (Int32.ofNat r.val &&& 31))).toInt < 64 := by decide +kernel
theorem bt_set {s r z1 z2 : Int} (hs : 0 ≤ s ∧ s < 64) (hr : 0 ≤ r ∧ r < 6) (hb : bt s r) (h1 : iZ z1 = iZ 1 <<< (iZ r &&& 31)) (h2 : iZ z2 = iZ s ||| iZ z1) (hz : -2147483648 ≤ z2 ∧ z2 < 2147483648) : s < z2 ∧ z2 < 64 := by
  obtain ⟨a, rfl⟩ := Int.eq_ofNat_of_zero_le hs.1
  obtain ⟨b, rfl⟩ := Int.eq_ofNat_of_zero_le hr.1
  have k := bt_key ⟨a, by omega⟩ ⟨b, by omega⟩
  unfold bt at hb
  rw [iZ_nat, iZ_nat] at hb
  have k2 := k hb
  rw [h1] at h2
  have e : z2 = (Int32.ofNat a ||| (1 <<< (Int32.ofNat b &&& 31))).toInt := by
    rw [iZ_nat, iZ_nat] at h2
    rw [← iZ_ti hz, h2]
    rfl
  rw [e]
  exact k2
theorem lrem_t (x y : Int64) : (x - x / y * y).toInt = x.toInt.tmod y.toInt := by
  have hr := Int64.toInt_mod x y
  have h1 := Int64.toInt_lt (x % y)
  have h2 := Int64.le_toInt (x % y)
  rw [hr] at h1 h2
  have hq : x.toInt - x.toInt.tdiv y.toInt * y.toInt = x.toInt.tmod y.toInt := by
    have := Int.tmod_add_mul_tdiv x.toInt y.toInt
    rw [Int.mul_comm] at this
    omega
  rw [Int64.toInt_sub, Int64.toInt_mul, Int64.toInt_div]
  simp only [Int.bmod_mul_bmod, Int.sub_bmod_bmod]
  rw [hq, Int.bmod_eq_of_le (by omega) (by omega)]
theorem tm_lt {a b r : Int} (hb : ¬ b = 0) (h : r = a.tmod b) : (r.natAbs : Int) < (b.natAbs : Int) := by
  rw [h, Int.natAbs_tmod]
  have := Nat.mod_lt a.natAbs (show b.natAbs > 0 by omega)
  omega
set_option maxHeartbeats 4000000 in
set_option maxRecDepth 100000 in
theorem m_tellsBy (l : Launch) (D : va_G) (k : Nat → ClassId) (hm : Nat) (Ma : Nat) (Mn : Nat) (Ms : Nat) (My : Nat) (Mt : Nat) (Mp : Nat) (Mx : Nat) (Mo : Nat) (Mk : Nat) (Ml : Nat) (Mb : Nat) (Mh : Nat) (Mc : Nat) (Mz : Nat) (Mr : Nat) (Mq : Nat) (Mst : Int) (Mtd : Int) (Msz : Int) (Mtk : Int) (Mfr : Int) (Men : Int) (Mva : Int) (Mfk : Int) (Mfp : Int) (Mfs : Int) (Mse : Int) (Mlt : Int) (Mdp : Int) (Mct : Int) (Mdr : Int) (Mrs : Int) (Mit : Int) (Mmk : Int) (Mtp : Int64) (Mbt : Int64) (x : Int64) (y : Int64) (hy9 : 0 < y.toInt ∧ y.toInt ≤ 1000) : WD (σ := ((Nat → Int) × (Nat → Int64) × (Nat → Nat → Int32) × (Nat → Nat → Int64))) l yX12_tellsBy cX12_tellsBy 11 (some .boolean) 1 0 0 D k [.ref hm, .long x, .long y] [(hm, .inr (12, [.ref Ma, .ref Mn, .int (iZ Mst), .long Mtp, .long Mbt, .ref Ms, .ref My, .ref Mt, .ref Mp, .ref Mx, .int (iZ Mtd), .int (iZ Msz), .int (iZ Mtk), .int (iZ Mfr), .int (iZ Men), .int (iZ Mva), .int (iZ Mfk), .int (iZ Mfp), .int (iZ Mfs), .int (iZ Mse), .int (iZ Mlt), .ref Mo, .int (iZ Mdp), .int (iZ Mct), .ref Mk, .ref Ml, .ref Mb, .ref Mh, .ref Mc, .int (iZ Mdr), .int (iZ Mrs), .ref Mz, .ref Mr, .ref Mq, .int (iZ Mit), .int (iZ Mmk)]))] (fun _ => some (.int (iZ 1))) (fun _ => True) (fun u => [(hm, .inr (12, [.ref Ma, .ref Mn, .int (iZ (u.1 1)), .long (u.2.1 1), .long (u.2.1 2), .ref Ms, .ref My, .ref Mt, .ref Mp, .ref Mx, .int (iZ Mtd), .int (iZ Msz), .int (iZ Mtk), .int (iZ Mfr), .int (iZ Men), .int (iZ Mva), .int (iZ Mfk), .int (iZ Mfp), .int (iZ Mfs), .int (iZ Mse), .int (iZ Mlt), .ref Mo, .int (iZ Mdp), .int (iZ Mct), .ref Mk, .ref Ml, .ref Mb, .ref Mh, .ref Mc, .int (iZ Mdr), .int (iZ Mrs), .ref Mz, .ref Mr, .ref Mq, .int (iZ Mit), .int (iZ Mmk)]))]) := by
  refine MW (by decide) (Nat.le_of_ble_eq_true rfl) (fun p e s m below meth c ls A hx hb hml hr hlocks hin hts hown hKK hP hD hS hA hl => ?_)
  have hK := hKK.1
  have hl : lv_has ls 11 [(0, .ref hm), (1, .long x), (3, .long y)] := hl
  have t0 : (0 : Int64).toInt = 0 := by decide
  refine lv_lload_n hx hb dX12_tellsBy_0 rfl (lv_at hl 1 rfl) ?_
  refine lv_lstore (lv' := [(5, .long x), (0, .ref hm), (1, .long x), (3, .long y)]) hx hb dX12_tellsBy_1 hl (by decide) rfl (fun ls hl => ?_)
  refine lv_lload_n hx hb dX12_tellsBy_3 rfl (lv_at hl 3 rfl) ?_
  refine lv_lstore (lv' := [(7, .long y), (5, .long x), (0, .ref hm), (1, .long x), (3, .long y)]) hx hb dX12_tellsBy_4 hl (by decide) rfl (fun ls hl => ?_)
  have HL1 : ∀ (fu : Nat) (va : Int64) (vb : Int64) (H : Heap) (locs : List Loc) (ls : Array Slot), ((vb.toInt.natAbs : Int) + 1) < (fu : Int) → (¬ (va).toInt = 0 ∨ ¬ (vb).toInt = 0) → (((vb).toInt.natAbs : Int) ≤ 1000) → va_P D vwCl [(hm, .inr (12, [.ref Ma, .ref Mn, .int (iZ Mst), .long Mtp, .long Mbt, .ref Ms, .ref My, .ref Mt, .ref Mp, .ref Mx, .int (iZ Mtd), .int (iZ Msz), .int (iZ Mtk), .int (iZ Mfr), .int (iZ Men), .int (iZ Mva), .int (iZ Mfk), .int (iZ Mfp), .int (iZ Mfs), .int (iZ Mse), .int (iZ Mlt), .ref Mo, .int (iZ Mdp), .int (iZ Mct), .ref Mk, .ref Ml, .ref Mb, .ref Mh, .ref Mc, .int (iZ Mdr), .int (iZ Mrs), .ref Mz, .ref Mr, .ref Mq, .int (iZ Mit), .int (iZ Mmk)]))] H → va_D A [(hm, .inr (12, [.ref Ma, .ref Mn, .int (iZ Mst), .long Mtp, .long Mbt, .ref Ms, .ref My, .ref Mt, .ref Mp, .ref Mx, .int (iZ Mtd), .int (iZ Msz), .int (iZ Mtk), .int (iZ Mfr), .int (iZ Men), .int (iZ Mva), .int (iZ Mfk), .int (iZ Mfp), .int (iZ Mfs), .int (iZ Mse), .int (iZ Mlt), .ref Mo, .int (iZ Mdp), .int (iZ Mct), .ref Mk, .ref Ml, .ref Mb, .ref Mh, .ref Mc, .int (iZ Mdr), .int (iZ Mrs), .ref Mz, .ref Mr, .ref Mq, .int (iZ Mit), .int (iZ Mmk)]))] → va_S A s.heap H locs → lv_has ls 11 [(7, .long vb), (5, .long va), (0, .ref hm), (1, .long x), (3, .long y)] → W p l e (rj 1 0 0) s m [.ref hm, .long x, .long y].toArray below meth c H locs 0 0 (MQ below (QW (σ := ((Nat → Int) × (Nat → Int64) × (Nat → Nat → Int32) × (Nat → Nat → Int64))) (fun _ => some (.int (iZ 1))) (fun _ => True) (fun u => [(hm, .inr (12, [.ref Ma, .ref Mn, .int (iZ (u.1 1)), .long (u.2.1 1), .long (u.2.1 2), .ref Ms, .ref My, .ref Mt, .ref Mp, .ref Mx, .int (iZ Mtd), .int (iZ Msz), .int (iZ Mtk), .int (iZ Mfr), .int (iZ Men), .int (iZ Mva), .int (iZ Mfk), .int (iZ Mfp), .int (iZ Mfs), .int (iZ Mse), .int (iZ Mlt), .ref Mo, .int (iZ Mdp), .int (iZ Mct), .ref Mk, .ref Ml, .ref Mb, .ref Mh, .ref Mc, .int (iZ Mdr), .int (iZ Mrs), .ref Mz, .ref Mr, .ref Mq, .int (iZ Mit), .int (iZ Mmk)]))]) D A) [.ref hm, .long x, .long y].toArray s 0 0 A) (F0 m 6 ls []) := by
    intro fu
    induction fu with
    | zero => intro va vb H locs ls hμ1 hva hvm hP hD hS hl; exact absurd hμ1 (by omega)
    | succ fu ih1 =>
      intro va vb H locs ls hμ1 hva hvm hP hD hS hl
      refine lv_lload hx hb dX12_tellsBy_6 (lv_at hl 0 rfl) ?_
      refine lv_lconst (v := 0) hx hb dX12_tellsBy_8 rfl ?_
      refine W.lcmp hx hb dX12_tellsBy_9 ?_
      refine lv_if_eq (tgt := 31) hx hb dX12_tellsBy_10 (by decide) (fun c_1 => ?_) (fun c_1 => ?_)
      ·
        have c_1 := Int64.toInt_inj.symm.mp ((lg_cmp_eq vb 0).mp c_1)
        refine lv_aload_n hx hb dX12_tellsBy_31 rfl (lv_at hl 2 rfl) ?_
        refine lv_lload_n hx hb dX12_tellsBy_32 rfl (lv_at hl 3 rfl) ?_
        refine lv_lload hx hb dX12_tellsBy_33 (lv_at hl 1 rfl) ?_
        refine lv_ldiv hx hb dX12_tellsBy_35 (fun h9 => absurd (congrArg Int64.toInt h9) (by omega)) ?_
        refine lv_topl (fun y_2 ey_2 => ?_)
        refine va_put (D := D) (ci := 12) (v := .long y_2) (ty := .long) (C := RX12) (T := TX12) (N := 36) hx hb hts iX12 tyX12 tyX12_ok nmX12 hown hK hP hD hS 0 rfl rfl 3 (by decide) (hts _ qf_X12_78) (fun _ h => h) rfl (by decide +kernel) rfl rfl (Nat.le_of_ble_eq_true rfl) dX12_tellsBy_36 (fun H locs hP hD hS => ?_)
        refine lv_aload_n hx hb dX12_tellsBy_39 rfl (lv_at hl 2 rfl) ?_
        refine lv_lload_n hx hb dX12_tellsBy_40 rfl (lv_at hl 4 rfl) ?_
        refine lv_lload hx hb dX12_tellsBy_41 (lv_at hl 1 rfl) ?_
        refine lv_ldiv hx hb dX12_tellsBy_43 (fun h9 => absurd (congrArg Int64.toInt h9) (by omega)) ?_
        refine lv_topl (fun y_3 ey_3 => ?_)
        refine va_put (D := D) (ci := 12) (v := .long y_3) (ty := .long) (C := RX12) (T := TX12) (N := 36) hx hb hts iX12 tyX12 tyX12_ok nmX12 hown hK hP hD hS 0 rfl rfl 4 (by decide) (hts _ qf_X12_17) (fun _ h => h) rfl (by decide +kernel) rfl rfl (Nat.le_of_ble_eq_true rfl) dX12_tellsBy_44 (fun H locs hP hD hS => ?_)
        refine lv_aload_n hx hb dX12_tellsBy_47 rfl (lv_at hl 2 rfl) ?_
        refine lv_iconst (v := iZ 0) hx hb dX12_tellsBy_48 (by decide) ?_
        refine CWV (As := [.int (iZ 0)]) (rest := []) (wc := [(hm, .inr (12, [.ref Ma, .ref Mn, .int (iZ Mst), .long y_2, .long y_3, .ref Ms, .ref My, .ref Mt, .ref Mp, .ref Mx, .int (iZ Mtd), .int (iZ Msz), .int (iZ Mtk), .int (iZ Mfr), .int (iZ Men), .int (iZ Mva), .int (iZ Mfk), .int (iZ Mfp), .int (iZ Mfs), .int (iZ Mse), .int (iZ Mlt), .ref Mo, .int (iZ Mdp), .int (iZ Mct), .ref Mk, .ref Ml, .ref Mb, .ref Mh, .ref Mc, .int (iZ Mdr), .int (iZ Mrs), .ref Mz, .ref Mr, .ref Mq, .int (iZ Mit), .int (iZ Mmk)]))]) (wr := []) hx hb hml hown hts hKK hP hD hS hA (m_is0 l D k hm Ma Mn Ms My Mt Mp Mx Mo Mk Ml Mb Mh Mc Mz Mr Mq Mst Mtd Msz Mtk Mfr Men Mva Mfk Mfp Mfs Mse Mlt Mdp Mct Mdr Mrs Mit Mmk y_2 y_3) ci_X12_is qm_X12_89 ⟨Nat.le_of_ble_eq_true rfl, Nat.le_of_ble_eq_true rfl⟩ ⟨Nat.le_of_ble_eq_true rfl, Nat.le_of_ble_eq_true rfl⟩ [0] [] rfl rfl rfl rfl rfl (by decide) 0 rfl rfl rfl hl.1 rfl (Nat.le_of_ble_eq_true rfl) dX12_tellsBy_49 (fun u_4 H locs hφ hP hD hS => ?_)
        obtain ⟨I_5, L_6, F_7, G_8⟩ := u_4
        refine W.eq (g2 := F0 m 52 ls [.int (iZ 1)]) rfl ?_
        exact EWz hx hb hr hlocks hS (fun i => [0, 0].getD i 0, fun i => [0, y_2, y_3].getD i 0, fun i => [].getD i (fun _ => 0), fun i => [].getD i (fun _ => 0)) rfl rfl trivial (hP.sub [0] rfl) (hD.sub [0] rfl rfl) dX12_tellsBy_52
      ·
        have c_1 := mt (fun h9 => (lg_cmp_eq vb 0).mpr (Int64.toInt_inj.symm.mpr h9)) c_1
        refine lv_lload hx hb dX12_tellsBy_13 (lv_at hl 1 rfl) ?_
        refine lv_lload hx hb dX12_tellsBy_15 (lv_at hl 0 rfl) ?_
        refine lv_lrem hx hb dX12_tellsBy_17 (fun h9 => c_1 (congrArg Int64.toInt h9)) ?_
        refine lv_topl (fun y_10 ey_10 => ?_)
        have hr_11 := tm_lt (by omega) ((congrArg Int64.toInt ey_10).trans (lrem_t va vb))
        refine lv_lstore (lv' := [(9, .long y_10), (7, .long vb), (5, .long va), (0, .ref hm), (1, .long x), (3, .long y)]) hx hb dX12_tellsBy_18 hl (by decide) rfl (fun ls hl => ?_)
        refine lv_lload hx hb dX12_tellsBy_20 (lv_at hl 1 rfl) ?_
        refine lv_lstore (lv' := [(5, .long vb), (9, .long y_10), (7, .long vb), (0, .ref hm), (1, .long x), (3, .long y)]) hx hb dX12_tellsBy_22 hl (by decide) rfl (fun ls hl => ?_)
        refine lv_lload hx hb dX12_tellsBy_24 (lv_at hl 1 rfl) ?_
        refine lv_lstore (lv' := [(7, .long y_10), (5, .long vb), (9, .long y_10), (0, .ref hm), (1, .long x), (3, .long y)]) hx hb dX12_tellsBy_26 hl (by decide) rfl (fun ls hl => ?_)
        refine lv_goto (tgt := 6) hx hb dX12_tellsBy_28 (by decide) ?_
        exact ih1  vb y_10 _ _ _ (by omega) (show ¬ (vb).toInt = 0 ∨ ¬ (y_10).toInt = 0 from (by omega)) (show ((y_10).toInt.natAbs : Int) ≤ 1000 from (by omega)) (hP.sub [0] rfl) (hD.sub [0] rfl rfl) hS (lv_sub hl [0, 1, 3, 4, 5] rfl)
  exact HL1 1003 x y _ _ _ (by omega) (show ¬ (x).toInt = 0 ∨ ¬ (y).toInt = 0 from (by omega)) (show ((y).toInt.natAbs : Int) ≤ 1000 from (by omega)) (hP.sub [0] rfl) (hD.sub [0] rfl rfl) hS (lv_sub hl [0, 1, 2, 3, 4] rfl)
set_option maxHeartbeats 4000000 in
set_option maxRecDepth 100000 in
theorem q_meanPrice (l : Launch) (D : va_G) (k : Nat → ClassId) (hm : Nat) (Ma : Nat) (Mn : Nat) (Ms : Nat) (My : Nat) (Mt : Nat) (Mp : Nat) (Mx : Nat) (Mo : Nat) (Mk : Nat) (Ml : Nat) (Mb : Nat) (Mh : Nat) (Mc : Nat) (Mz : Nat) (Mr : Nat) (Mq : Nat) (Mst : Int) (Mtd : Int) (Msz : Int) (Mtk : Int) (Mfr : Int) (Men : Int) (Mva : Int) (Mfk : Int) (Mfp : Int) (Mfs : Int) (Mse : Int) (Mlt : Int) (Mdp : Int) (Mct : Int) (Mdr : Int) (Mrs : Int) (Mit : Int) (Mmk : Int) (Mtp : Int64) (Mbt : Int64) (Af : Nat → Int32) (x1 : Int) (x2 : Int) (x3 : Int) (hM : M0 Af) (h9x1 : -2147483648 ≤ x1 ∧ x1 < 2147483648) (h9x2 : -2147483648 ≤ x2 ∧ x2 < 2147483648) (h9x3 : -2147483648 ≤ x3 ∧ x3 < 2147483648) : WD (σ := ((Nat → Int) × (Nat → Int64) × (Nat → Nat → Int32) × (Nat → Nat → Int64))) l yX12_meanPrice cX12_meanPrice 7 (some .boolean) 3 0 0 D k [.ref hm, .int (iZ x1), .int (iZ x2), .int (iZ x3)] [(hm, .inr (12, [.ref Ma, .ref Mn, .int (iZ Mst), .long Mtp, .long Mbt, .ref Ms, .ref My, .ref Mt, .ref Mp, .ref Mx, .int (iZ Mtd), .int (iZ Msz), .int (iZ Mtk), .int (iZ Mfr), .int (iZ Men), .int (iZ Mva), .int (iZ Mfk), .int (iZ Mfp), .int (iZ Mfs), .int (iZ Mse), .int (iZ Mlt), .ref Mo, .int (iZ Mdp), .int (iZ Mct), .ref Mk, .ref Ml, .ref Mb, .ref Mh, .ref Mc, .int (iZ Mdr), .int (iZ Mrs), .ref Mz, .ref Mr, .ref Mq, .int (iZ Mit), .int (iZ Mmk)])), (Ma, .inl (k 1, 5340, .inl Af))] (fun u => some (.int (iZ (u.1 0)))) (fun _ => True) (fun u => [(hm, .inr (12, [.ref Ma, .ref Mn, .int (iZ (u.1 1)), .long (u.2.1 1), .long (u.2.1 2), .ref Ms, .ref My, .ref Mt, .ref Mp, .ref Mx, .int (iZ Mtd), .int (iZ Msz), .int (iZ Mtk), .int (iZ Mfr), .int (iZ Men), .int (iZ Mva), .int (iZ Mfk), .int (iZ Mfp), .int (iZ Mfs), .int (iZ Mse), .int (iZ Mlt), .ref Mo, .int (iZ Mdp), .int (iZ Mct), .ref Mk, .ref Ml, .ref Mb, .ref Mh, .ref Mc, .int (iZ Mdr), .int (iZ Mrs), .ref Mz, .ref Mr, .ref Mq, .int (iZ Mit), .int (iZ Mmk)])), (Ma, .inl (k 1, 5340, .inl Af))]) := by
  refine MW (by decide) (Nat.le_of_ble_eq_true rfl) (fun p e s m below meth c ls A hx hb hml hr hlocks hin hts hown hKK hP hD hS hA hl => ?_)
  have hK := hKK.1
  have hl : lv_has ls 7 [(0, .ref hm), (1, .int (iZ x1)), (2, .int (iZ x2)), (3, .int (iZ x3))] := hl
  obtain ⟨m0, m1, m3, m4, m5, mF, mO, mS⟩ := id hM
  refine lv_aload_n hx hb dX12_meanPrice_0 rfl (lv_at hl 0 rfl) ?_
  refine lv_iload_n hx hb dX12_meanPrice_1 rfl (lv_at hl 1 rfl) ?_
  refine CPV (As := [.int (iZ x1)]) (rest := []) hx hb hml hown hts hKK hP (m_isRock l D k ([.ref Ma, .ref Mn, .int (iZ Mst), .long Mtp, .long Mbt, .ref Ms, .ref My, .ref Mt, .ref Mp, .ref Mx, .int (iZ Mtd), .int (iZ Msz), .int (iZ Mtk), .int (iZ Mfr), .int (iZ Men), .int (iZ Mva), .int (iZ Mfk), .int (iZ Mfp), .int (iZ Mfs), .int (iZ Mse), .int (iZ Mlt), .ref Mo, .int (iZ Mdp), .int (iZ Mct), .ref Mk, .ref Ml, .ref Mb, .ref Mh, .ref Mc, .int (iZ Mdr), .int (iZ Mrs), .ref Mz, .ref Mr, .ref Mq, .int (iZ Mit), .int (iZ Mmk)]) hm Ma Af x1 rfl hM ⟨by omega, by omega⟩) ci_X12_isRock qm_X12_243 ⟨Nat.le_of_ble_eq_true rfl, Nat.le_of_ble_eq_true rfl⟩ ⟨Nat.le_of_ble_eq_true rfl, Nat.le_of_ble_eq_true rfl⟩ 0 rfl rfl rfl hl.1 rfl (Nat.le_of_ble_eq_true rfl) dX12_meanPrice_2 (fun z_1 hz_1 => ?_)
  rcases hz_1 with ⟨qz_1, hz_1⟩ | ⟨qz_1, hz_1⟩
  ·
    subst qz_1
    refine lv_if_eq (tgt := 27) hx hb dX12_meanPrice_5 (by decide) (fun c => absurd c (by decide)) (fun _ => ?_)
    refine lv_iload_n hx hb dX12_meanPrice_8 rfl (lv_at hl 2 rfl) ?_
    refine CPS (As := [.int (iZ x2)]) (rest := []) hx hb hml hown hts hKK (hP.sub (ws' := []) [] rfl) (m_isAsked l D k x2 ⟨by omega, by omega⟩) ci_X12_isAsked qm_X12_258 ⟨Nat.le_of_ble_eq_true rfl, Nat.le_of_ble_eq_true rfl⟩ ⟨Nat.le_of_ble_eq_true rfl, Nat.le_of_ble_eq_true rfl⟩ rfl hl.1 rfl (Nat.le_of_ble_eq_true rfl) dX12_meanPrice_9 (fun z_3 hz_3 => ?_)
    rcases hz_3 with ⟨qz_3, hz_3⟩ | ⟨qz_3, hz_3⟩
    ·
      subst qz_3
      refine lv_if_eq (tgt := 27) hx hb dX12_meanPrice_12 (by decide) (fun c => absurd c (by decide)) (fun _ => ?_)
      refine lv_iload_n hx hb dX12_meanPrice_15 rfl (lv_at hl 3 rfl) ?_
      refine CPS (As := [.int (iZ x3)]) (rest := []) hx hb hml hown hts hKK (hP.sub (ws' := []) [] rfl) (m_isAsked l D k x3 ⟨by omega, by omega⟩) ci_X12_isAsked qm_X12_258 ⟨Nat.le_of_ble_eq_true rfl, Nat.le_of_ble_eq_true rfl⟩ ⟨Nat.le_of_ble_eq_true rfl, Nat.le_of_ble_eq_true rfl⟩ rfl hl.1 rfl (Nat.le_of_ble_eq_true rfl) dX12_meanPrice_16 (fun z_5 hz_5 => ?_)
      rcases hz_5 with ⟨qz_5, hz_5⟩ | ⟨qz_5, hz_5⟩
      ·
        subst qz_5
        refine lv_if_eq (tgt := 27) hx hb dX12_meanPrice_19 (by decide) (fun c => absurd c (by decide)) (fun _ => ?_)
        refine lv_iload_n hx hb dX12_meanPrice_22 rfl (lv_at hl 3 rfl) ?_
        refine lv_iload_n hx hb dX12_meanPrice_23 rfl (lv_at hl 2 rfl) ?_
        refine lv_icmp_ge (tgt := 33) hx hb dX12_meanPrice_24 (by decide) (fun c_7 => ?_) (fun c_7 => ?_)
        ·
          have c_7 := (zle (x := iZ x2) (y := iZ x3) rfl rfl ⟨by omega, by omega⟩ ⟨by omega, by omega⟩).mp c_7
          refine lv_lconst (v := 0) hx hb dX12_meanPrice_33 rfl ?_
          refine lv_lstore (lv' := [(4, .long 0), (0, .ref hm), (1, .int (iZ x1)), (2, .int (iZ x2)), (3, .int (iZ x3))]) hx hb dX12_meanPrice_34 hl (by decide) rfl (fun ls hl => ?_)
          refine lv_iload_n hx hb dX12_meanPrice_36 rfl (lv_at hl 3 rfl) ?_
          refine lv_istore (lv' := [(6, .int (iZ x2)), (4, .long 0), (0, .ref hm), (1, .int (iZ x1)), (2, .int (iZ x2)), (3, .int (iZ x3))]) hx hb dX12_meanPrice_37 hl (by decide) rfl (fun ls hl => ?_)
          have HL39 : ∀ (fu : Nat) (v4_39 : Int64) (v6_39 : Int) (H : Heap) (locs : List Loc) (ls : Array Slot), ((x3) + 2 - v6_39) < (fu : Int) → ((x2 ≤ v6_39 ∧ v6_39 ≤ (x3) + 1)) → va_P D vwCl [(hm, .inr (12, [.ref Ma, .ref Mn, .int (iZ Mst), .long Mtp, .long Mbt, .ref Ms, .ref My, .ref Mt, .ref Mp, .ref Mx, .int (iZ Mtd), .int (iZ Msz), .int (iZ Mtk), .int (iZ Mfr), .int (iZ Men), .int (iZ Mva), .int (iZ Mfk), .int (iZ Mfp), .int (iZ Mfs), .int (iZ Mse), .int (iZ Mlt), .ref Mo, .int (iZ Mdp), .int (iZ Mct), .ref Mk, .ref Ml, .ref Mb, .ref Mh, .ref Mc, .int (iZ Mdr), .int (iZ Mrs), .ref Mz, .ref Mr, .ref Mq, .int (iZ Mit), .int (iZ Mmk)])), (Ma, .inl (k 1, 5340, .inl Af))] H → va_D A [(hm, .inr (12, [.ref Ma, .ref Mn, .int (iZ Mst), .long Mtp, .long Mbt, .ref Ms, .ref My, .ref Mt, .ref Mp, .ref Mx, .int (iZ Mtd), .int (iZ Msz), .int (iZ Mtk), .int (iZ Mfr), .int (iZ Men), .int (iZ Mva), .int (iZ Mfk), .int (iZ Mfp), .int (iZ Mfs), .int (iZ Mse), .int (iZ Mlt), .ref Mo, .int (iZ Mdp), .int (iZ Mct), .ref Mk, .ref Ml, .ref Mb, .ref Mh, .ref Mc, .int (iZ Mdr), .int (iZ Mrs), .ref Mz, .ref Mr, .ref Mq, .int (iZ Mit), .int (iZ Mmk)])), (Ma, .inl (k 1, 5340, .inl Af))] → va_S A s.heap H locs → lv_has ls 7 [(6, .int (iZ v6_39)), (4, .long v4_39), (0, .ref hm), (1, .int (iZ x1)), (2, .int (iZ x2)), (3, .int (iZ x3))] → W p l e (rj 3 0 0) s m [.ref hm, .int (iZ x1), .int (iZ x2), .int (iZ x3)].toArray below meth c H locs 0 0 (MQ below (QW (σ := ((Nat → Int) × (Nat → Int64) × (Nat → Nat → Int32) × (Nat → Nat → Int64))) (fun u => some (.int (iZ (u.1 0)))) (fun _ => True) (fun u => [(hm, .inr (12, [.ref Ma, .ref Mn, .int (iZ (u.1 1)), .long (u.2.1 1), .long (u.2.1 2), .ref Ms, .ref My, .ref Mt, .ref Mp, .ref Mx, .int (iZ Mtd), .int (iZ Msz), .int (iZ Mtk), .int (iZ Mfr), .int (iZ Men), .int (iZ Mva), .int (iZ Mfk), .int (iZ Mfp), .int (iZ Mfs), .int (iZ Mse), .int (iZ Mlt), .ref Mo, .int (iZ Mdp), .int (iZ Mct), .ref Mk, .ref Ml, .ref Mb, .ref Mh, .ref Mc, .int (iZ Mdr), .int (iZ Mrs), .ref Mz, .ref Mr, .ref Mq, .int (iZ Mit), .int (iZ Mmk)])), (Ma, .inl (k 1, 5340, .inl Af))]) D A) [.ref hm, .int (iZ x1), .int (iZ x2), .int (iZ x3)].toArray s 0 0 A) (F0 m 39 ls []) := by
            intro fu
            induction fu with
            | zero => intro v4_39 v6_39 H locs ls hμ39 hi39 hP hD hS hl; exact absurd hμ39 (by omega)
            | succ fu ih39 =>
              intro v4_39 v6_39 H locs ls hμ39 hi39 hP hD hS hl
              refine lv_iload hx hb dX12_meanPrice_39 (lv_at hl 0 rfl) ?_
              refine lv_iload_n hx hb dX12_meanPrice_41 rfl (lv_at hl 5 rfl) ?_
              refine lv_icmp_gt (tgt := 64) hx hb dX12_meanPrice_42 (by decide) (fun c_8 => ?_) (fun c_8 => ?_)
              ·
                have c_8 := (zlt (x := iZ x3) (y := iZ v6_39) rfl rfl ⟨by omega, by omega⟩ ⟨by omega, by omega⟩).mp c_8
                refine lv_aload_n hx hb dX12_meanPrice_64 rfl (lv_at hl 2 rfl) ?_
                refine lv_lload hx hb dX12_meanPrice_65 (lv_at hl 1 rfl) ?_
                refine lv_iload_n hx hb dX12_meanPrice_67 rfl (lv_at hl 5 rfl) ?_
                refine lv_iload_n hx hb dX12_meanPrice_68 rfl (lv_at hl 4 rfl) ?_
                refine lv_isub hx hb dX12_meanPrice_69 ?_
                refine lv_topi (fun x_9 ex_9 => ?_)
                obtain rfl : x_9 = iZ (x3 - x2) := ex_9.trans (iZ_sub x3 x2)
                refine lv_iconst (v := iZ 1) hx hb dX12_meanPrice_70 (by decide) ?_
                refine lv_iadd hx hb dX12_meanPrice_71 ?_
                refine lv_topi (fun x_10 ex_10 => ?_)
                obtain rfl : x_10 = iZ ((x3 - x2) + 1) := ex_10.trans (iZ_add (x3 - x2) 1)
                refine lv_i2l (v := (iZ ((x3 - x2) + 1)).toInt64) hx hb dX12_meanPrice_72 rfl ?_
                refine CWV (As := [.long v4_39, .long ((iZ ((x3 - x2) + 1)).toInt64)]) (rest := []) (wc := [(hm, .inr (12, [.ref Ma, .ref Mn, .int (iZ Mst), .long Mtp, .long Mbt, .ref Ms, .ref My, .ref Mt, .ref Mp, .ref Mx, .int (iZ Mtd), .int (iZ Msz), .int (iZ Mtk), .int (iZ Mfr), .int (iZ Men), .int (iZ Mva), .int (iZ Mfk), .int (iZ Mfp), .int (iZ Mfs), .int (iZ Mse), .int (iZ Mlt), .ref Mo, .int (iZ Mdp), .int (iZ Mct), .ref Mk, .ref Ml, .ref Mb, .ref Mh, .ref Mc, .int (iZ Mdr), .int (iZ Mrs), .ref Mz, .ref Mr, .ref Mq, .int (iZ Mit), .int (iZ Mmk)]))]) (wr := [(Ma, .inl (k 1, 5340, .inl Af))]) hx hb hml hown hts hKK hP hD hS hA (m_tellsBy l D k hm Ma Mn Ms My Mt Mp Mx Mo Mk Ml Mb Mh Mc Mz Mr Mq Mst Mtd Msz Mtk Mfr Men Mva Mfk Mfp Mfs Mse Mlt Mdp Mct Mdr Mrs Mit Mmk Mtp Mbt v4_39 ((iZ ((x3 - x2) + 1)).toInt64) (by have t9 := tI64 (z := ((x3 - x2) + 1)) ⟨by omega, by omega⟩; omega)) ci_X12_tellsBy qm_X12_359 ⟨Nat.le_of_ble_eq_true rfl, Nat.le_of_ble_eq_true rfl⟩ ⟨Nat.le_of_ble_eq_true rfl, Nat.le_of_ble_eq_true rfl⟩ [0] [1] rfl rfl rfl rfl rfl (by decide) 0 rfl rfl rfl hl.1 rfl (Nat.le_of_ble_eq_true rfl) dX12_meanPrice_73 (fun u_11 H locs hφ hP hD hS => ?_)
                obtain ⟨I_12, L_13, F_14, G_15⟩ := u_11
                refine W.eq (g2 := F0 m 76 ls [.int (iZ 1)]) rfl ?_
                exact EWz hx hb hr hlocks hS (fun i => [1, (I_12 1)].getD i 0, fun i => [0, (L_13 1), (L_13 2)].getD i 0, fun i => [].getD i (fun _ => 0), fun i => [].getD i (fun _ => 0)) rfl rfl trivial (hP.sub [1, 0] rfl) (hD.sub [1, 0] rfl rfl) dX12_meanPrice_76
              ·
                have c_8 := mt (zlt (x := iZ x3) (y := iZ v6_39) rfl rfl ⟨by omega, by omega⟩ ⟨by omega, by omega⟩).mpr c_8
                refine lv_lload hx hb dX12_meanPrice_45 (lv_at hl 1 rfl) ?_
                refine lv_aload_n hx hb dX12_meanPrice_47 rfl (lv_at hl 2 rfl) ?_
                refine lv_iload_n hx hb dX12_meanPrice_48 rfl (lv_at hl 3 rfl) ?_
                refine lv_iload hx hb dX12_meanPrice_49 (lv_at hl 0 rfl) ?_
                refine CRV (As := [.int (iZ x1), .int (iZ v6_39)]) (rest := [.long v4_39]) hx hb hml hown hts hKK hP (m_price l D k ([.ref Ma, .ref Mn, .int (iZ Mst), .long Mtp, .long Mbt, .ref Ms, .ref My, .ref Mt, .ref Mp, .ref Mx, .int (iZ Mtd), .int (iZ Msz), .int (iZ Mtk), .int (iZ Mfr), .int (iZ Men), .int (iZ Mva), .int (iZ Mfk), .int (iZ Mfp), .int (iZ Mfs), .int (iZ Mse), .int (iZ Mlt), .ref Mo, .int (iZ Mdp), .int (iZ Mct), .ref Mk, .ref Ml, .ref Mb, .ref Mh, .ref Mc, .int (iZ Mdr), .int (iZ Mrs), .ref Mz, .ref Mr, .ref Mq, .int (iZ Mit), .int (iZ Mmk)]) hm Ma Af x1 v6_39 rfl hM ⟨by omega, by omega⟩ ⟨by omega, by omega⟩) ci_X12_priceOf qm_X12_353 ⟨Nat.le_of_ble_eq_true rfl, Nat.le_of_ble_eq_true rfl⟩ ⟨Nat.le_of_ble_eq_true rfl, Nat.le_of_ble_eq_true rfl⟩ 0 rfl rfl rfl hl.1 rfl (Nat.le_of_ble_eq_true rfl) dX12_meanPrice_51 ?_
                have hp_h_17 := pr_rg (f := (sh Af 10)) (a := x1) (w := v6_39) hM.2.2.2.2.2.1 ⟨by omega, by omega⟩
                refine lv_i2l (v := (iZ (pr (sh Af 10) x1 v6_39)).toInt64) hx hb dX12_meanPrice_54 rfl ?_
                refine lv_ladd hx hb dX12_meanPrice_55 ?_
                refine lv_topl (fun y_18 ey_18 => ?_)
                refine lv_lstore (lv' := [(4, .long y_18), (6, .int (iZ v6_39)), (0, .ref hm), (1, .int (iZ x1)), (2, .int (iZ x2)), (3, .int (iZ x3))]) hx hb dX12_meanPrice_56 hl (by decide) rfl (fun ls hl => ?_)
                refine lv_iinc (v := iZ (v6_39 + 1)) (lv' := [(6, .int (iZ (v6_39 + 1))), (4, .long y_18), (0, .ref hm), (1, .int (iZ x1)), (2, .int (iZ x2)), (3, .int (iZ x3))]) hx hb dX12_meanPrice_58 hl (k := 1) rfl (iZ_add v6_39 1) (by decide) rfl (fun ls hl => ?_)
                refine lv_goto (tgt := 39) hx hb dX12_meanPrice_61 (by decide) ?_
                exact ih39  y_18 (v6_39 + 1) _ _ _ (by omega) (show (x2 ≤ (v6_39 + 1) ∧ (v6_39 + 1) ≤ (x3) + 1) from ⟨by omega, by omega⟩) (hP.sub [0, 1] rfl) (hD.sub [0, 1] rfl rfl) hS (lv_sub hl [0, 1, 2, 3, 4, 5] rfl)
          exact HL39 504 0 x2 _ _ _ (by omega) (show (x2 ≤ x2 ∧ x2 ≤ (x3) + 1) from ⟨by omega, by omega⟩) (hP.sub [0, 1] rfl) (hD.sub [0, 1] rfl rfl) hS (lv_sub hl [0, 1, 2, 3, 4, 5] rfl)
        ·
          have c_7 := mt (zle (x := iZ x2) (y := iZ x3) rfl rfl ⟨by omega, by omega⟩ ⟨by omega, by omega⟩).mpr c_7
          refine lv_aload_n hx hb dX12_meanPrice_27 rfl (lv_at hl 0 rfl) ?_
          refine lv_iconst (v := iZ 1) hx hb dX12_meanPrice_28 (by decide) ?_
          refine CWV (As := [.int (iZ 1)]) (rest := []) (wc := [(hm, .inr (12, [.ref Ma, .ref Mn, .int (iZ Mst), .long Mtp, .long Mbt, .ref Ms, .ref My, .ref Mt, .ref Mp, .ref Mx, .int (iZ Mtd), .int (iZ Msz), .int (iZ Mtk), .int (iZ Mfr), .int (iZ Men), .int (iZ Mva), .int (iZ Mfk), .int (iZ Mfp), .int (iZ Mfs), .int (iZ Mse), .int (iZ Mlt), .ref Mo, .int (iZ Mdp), .int (iZ Mct), .ref Mk, .ref Ml, .ref Mb, .ref Mh, .ref Mc, .int (iZ Mdr), .int (iZ Mrs), .ref Mz, .ref Mr, .ref Mq, .int (iZ Mit), .int (iZ Mmk)]))]) (wr := [(Ma, .inl (k 1, 5340, .inl Af))]) hx hb hml hown hts hKK hP hD hS hA (m_isN l D k hm Ma Mn Ms My Mt Mp Mx Mo Mk Ml Mb Mh Mc Mz Mr Mq Mst Mtd Msz Mtk Mfr Men Mva Mfk Mfp Mfs Mse Mlt Mdp Mct Mdr Mrs Mit Mmk Mtp Mbt 1 ⟨by omega, by omega⟩ (by omega)) ci_X12_is qm_X12_89 ⟨Nat.le_of_ble_eq_true rfl, Nat.le_of_ble_eq_true rfl⟩ ⟨Nat.le_of_ble_eq_true rfl, Nat.le_of_ble_eq_true rfl⟩ [0] [1] rfl rfl rfl rfl rfl (by decide) 0 rfl rfl rfl hl.1 rfl (Nat.le_of_ble_eq_true rfl) dX12_meanPrice_29 (fun u_19 H locs hφ hP hD hS => ?_)
          obtain ⟨I_20, L_21, F_22, G_23⟩ := u_19
          refine W.eq (g2 := F0 m 32 ls [.int (iZ 0)]) rfl ?_
          exact EWz hx hb hr hlocks hS (fun i => [0, 1].getD i 0, fun i => [0, Mtp, Mbt].getD i 0, fun i => [].getD i (fun _ => 0), fun i => [].getD i (fun _ => 0)) rfl rfl trivial (hP.sub [1, 0] rfl) (hD.sub [1, 0] rfl rfl) dX12_meanPrice_32
      ·
        subst qz_5
        refine lv_if_eq (tgt := 27) hx hb dX12_meanPrice_19 (by decide) (fun _ => ?_) (fun c => absurd (by decide) c)
        refine lv_aload_n hx hb dX12_meanPrice_27 rfl (lv_at hl 0 rfl) ?_
        refine lv_iconst (v := iZ 1) hx hb dX12_meanPrice_28 (by decide) ?_
        refine CWV (As := [.int (iZ 1)]) (rest := []) (wc := [(hm, .inr (12, [.ref Ma, .ref Mn, .int (iZ Mst), .long Mtp, .long Mbt, .ref Ms, .ref My, .ref Mt, .ref Mp, .ref Mx, .int (iZ Mtd), .int (iZ Msz), .int (iZ Mtk), .int (iZ Mfr), .int (iZ Men), .int (iZ Mva), .int (iZ Mfk), .int (iZ Mfp), .int (iZ Mfs), .int (iZ Mse), .int (iZ Mlt), .ref Mo, .int (iZ Mdp), .int (iZ Mct), .ref Mk, .ref Ml, .ref Mb, .ref Mh, .ref Mc, .int (iZ Mdr), .int (iZ Mrs), .ref Mz, .ref Mr, .ref Mq, .int (iZ Mit), .int (iZ Mmk)]))]) (wr := [(Ma, .inl (k 1, 5340, .inl Af))]) hx hb hml hown hts hKK hP hD hS hA (m_isN l D k hm Ma Mn Ms My Mt Mp Mx Mo Mk Ml Mb Mh Mc Mz Mr Mq Mst Mtd Msz Mtk Mfr Men Mva Mfk Mfp Mfs Mse Mlt Mdp Mct Mdr Mrs Mit Mmk Mtp Mbt 1 ⟨by omega, by omega⟩ (by omega)) ci_X12_is qm_X12_89 ⟨Nat.le_of_ble_eq_true rfl, Nat.le_of_ble_eq_true rfl⟩ ⟨Nat.le_of_ble_eq_true rfl, Nat.le_of_ble_eq_true rfl⟩ [0] [1] rfl rfl rfl rfl rfl (by decide) 0 rfl rfl rfl hl.1 rfl (Nat.le_of_ble_eq_true rfl) dX12_meanPrice_29 (fun u_26 H locs hφ hP hD hS => ?_)
        obtain ⟨I_27, L_28, F_29, G_30⟩ := u_26
        refine W.eq (g2 := F0 m 32 ls [.int (iZ 0)]) rfl ?_
        exact EWz hx hb hr hlocks hS (fun i => [0, 1].getD i 0, fun i => [0, Mtp, Mbt].getD i 0, fun i => [].getD i (fun _ => 0), fun i => [].getD i (fun _ => 0)) rfl rfl trivial (hP.sub [1, 0] rfl) (hD.sub [1, 0] rfl rfl) dX12_meanPrice_32
    ·
      subst qz_3
      refine lv_if_eq (tgt := 27) hx hb dX12_meanPrice_12 (by decide) (fun _ => ?_) (fun c => absurd (by decide) c)
      refine lv_aload_n hx hb dX12_meanPrice_27 rfl (lv_at hl 0 rfl) ?_
      refine lv_iconst (v := iZ 1) hx hb dX12_meanPrice_28 (by decide) ?_
      refine CWV (As := [.int (iZ 1)]) (rest := []) (wc := [(hm, .inr (12, [.ref Ma, .ref Mn, .int (iZ Mst), .long Mtp, .long Mbt, .ref Ms, .ref My, .ref Mt, .ref Mp, .ref Mx, .int (iZ Mtd), .int (iZ Msz), .int (iZ Mtk), .int (iZ Mfr), .int (iZ Men), .int (iZ Mva), .int (iZ Mfk), .int (iZ Mfp), .int (iZ Mfs), .int (iZ Mse), .int (iZ Mlt), .ref Mo, .int (iZ Mdp), .int (iZ Mct), .ref Mk, .ref Ml, .ref Mb, .ref Mh, .ref Mc, .int (iZ Mdr), .int (iZ Mrs), .ref Mz, .ref Mr, .ref Mq, .int (iZ Mit), .int (iZ Mmk)]))]) (wr := [(Ma, .inl (k 1, 5340, .inl Af))]) hx hb hml hown hts hKK hP hD hS hA (m_isN l D k hm Ma Mn Ms My Mt Mp Mx Mo Mk Ml Mb Mh Mc Mz Mr Mq Mst Mtd Msz Mtk Mfr Men Mva Mfk Mfp Mfs Mse Mlt Mdp Mct Mdr Mrs Mit Mmk Mtp Mbt 1 ⟨by omega, by omega⟩ (by omega)) ci_X12_is qm_X12_89 ⟨Nat.le_of_ble_eq_true rfl, Nat.le_of_ble_eq_true rfl⟩ ⟨Nat.le_of_ble_eq_true rfl, Nat.le_of_ble_eq_true rfl⟩ [0] [1] rfl rfl rfl rfl rfl (by decide) 0 rfl rfl rfl hl.1 rfl (Nat.le_of_ble_eq_true rfl) dX12_meanPrice_29 (fun u_33 H locs hφ hP hD hS => ?_)
      obtain ⟨I_34, L_35, F_36, G_37⟩ := u_33
      refine W.eq (g2 := F0 m 32 ls [.int (iZ 0)]) rfl ?_
      exact EWz hx hb hr hlocks hS (fun i => [0, 1].getD i 0, fun i => [0, Mtp, Mbt].getD i 0, fun i => [].getD i (fun _ => 0), fun i => [].getD i (fun _ => 0)) rfl rfl trivial (hP.sub [1, 0] rfl) (hD.sub [1, 0] rfl rfl) dX12_meanPrice_32
  ·
    subst qz_1
    refine lv_if_eq (tgt := 27) hx hb dX12_meanPrice_5 (by decide) (fun _ => ?_) (fun c => absurd (by decide) c)
    refine lv_aload_n hx hb dX12_meanPrice_27 rfl (lv_at hl 0 rfl) ?_
    refine lv_iconst (v := iZ 1) hx hb dX12_meanPrice_28 (by decide) ?_
    refine CWV (As := [.int (iZ 1)]) (rest := []) (wc := [(hm, .inr (12, [.ref Ma, .ref Mn, .int (iZ Mst), .long Mtp, .long Mbt, .ref Ms, .ref My, .ref Mt, .ref Mp, .ref Mx, .int (iZ Mtd), .int (iZ Msz), .int (iZ Mtk), .int (iZ Mfr), .int (iZ Men), .int (iZ Mva), .int (iZ Mfk), .int (iZ Mfp), .int (iZ Mfs), .int (iZ Mse), .int (iZ Mlt), .ref Mo, .int (iZ Mdp), .int (iZ Mct), .ref Mk, .ref Ml, .ref Mb, .ref Mh, .ref Mc, .int (iZ Mdr), .int (iZ Mrs), .ref Mz, .ref Mr, .ref Mq, .int (iZ Mit), .int (iZ Mmk)]))]) (wr := [(Ma, .inl (k 1, 5340, .inl Af))]) hx hb hml hown hts hKK hP hD hS hA (m_isN l D k hm Ma Mn Ms My Mt Mp Mx Mo Mk Ml Mb Mh Mc Mz Mr Mq Mst Mtd Msz Mtk Mfr Men Mva Mfk Mfp Mfs Mse Mlt Mdp Mct Mdr Mrs Mit Mmk Mtp Mbt 1 ⟨by omega, by omega⟩ (by omega)) ci_X12_is qm_X12_89 ⟨Nat.le_of_ble_eq_true rfl, Nat.le_of_ble_eq_true rfl⟩ ⟨Nat.le_of_ble_eq_true rfl, Nat.le_of_ble_eq_true rfl⟩ [0] [1] rfl rfl rfl rfl rfl (by decide) 0 rfl rfl rfl hl.1 rfl (Nat.le_of_ble_eq_true rfl) dX12_meanPrice_29 (fun u_40 H locs hφ hP hD hS => ?_)
    obtain ⟨I_41, L_42, F_43, G_44⟩ := u_40
    refine W.eq (g2 := F0 m 32 ls [.int (iZ 0)]) rfl ?_
    exact EWz hx hb hr hlocks hS (fun i => [0, 1].getD i 0, fun i => [0, Mtp, Mbt].getD i 0, fun i => [].getD i (fun _ => 0), fun i => [].getD i (fun _ => 0)) rfl rfl trivial (hP.sub [1, 0] rfl) (hD.sub [1, 0] rfl rfl) dX12_meanPrice_32
