/-- what the course of a world leaves alone -/
def FR (g f : Nat → Int32) : Prop := (∀ e : Int, 520 ≤ e ∨ (5 ≤ e ∧ e < 78) → gz g e = gz f e) ∧ gz g 0 = gz f 0 ∧ gz g 1 = gz f 1 ∧ gz g 2 = gz f 2
theorem FR.rf (f : Nat → Int32) : FR f f := ⟨fun _ _ => rfl, rfl, rfl, rfl⟩
theorem FR.tr {h g f : Nat → Int32} (a : FR h g) (b : FR g f) : FR h f := ⟨fun e q => (a.1 e q).trans (b.1 e q), a.2.1.trans b.2.1, a.2.2.1.trans b.2.2.1, a.2.2.2.trans b.2.2.2⟩
theorem FR.z {g f : Nat → Int32} (a : FR g f) : gz g 0 = gz f 0 ∧ gz g 5 = gz f 5 := ⟨a.2.1, a.1 5 (by omega)⟩
theorem FR.up {g f : Nat → Int32} {i v : Int} (hg : g = upd f (iZ i).toNatClampNeg (iZ v)) (hi : i = 3 ∨ i = 4 ∨ (78 ≤ i ∧ i < 520)) (hv : -2147483648 ≤ v ∧ v < 2147483648) : FR g f := by
  have c := fun j hj => gz_upc (j := j) hg (by omega) hv hj
  refine ⟨fun e q => ?_, ?_, ?_, ?_⟩
  · have := c e (by omega); omega
  · have := c 0 (by omega); omega
  · have := c 1 (by omega); omega
  · have := c 2 (by omega); omega
theorem M0.like3 {f g : Nat → Int32} (h0 : ∀ e : Int, 0 ≤ e → (e < 118 ∨ 520 ≤ e) → e < 884 → ¬ e = 3 → gz g e = gz f e) (h3 : 0 ≤ gz g 3 ∧ gz g 3 ≤ 400) (hf : M0 f) : M0 g := by
  have h : ∀ e : Int, 0 ≤ e ∧ (e < 118 ∨ 520 ≤ e) → e < 884 ∧ ¬ e = 3 → gz g e = gz f e := fun e q r => h0 e q.1 q.2 r.1 r.2
  obtain ⟨a0, a1, a3, a4, a5, aF, aO, aS⟩ := hf
  refine ⟨by rw [h 0 (by omega) (by omega)]; exact a0, by rw [h 1 (by omega) (by omega)]; exact a1, h3, by rw [h 4 (by omega) (by omega)]; exact a4, by rw [h 5 (by omega) (by omega)]; exact a5, ?_, ?_, ?_⟩
  · rw [h 0 (by omega) (by omega)]
    intro r h1 h2
    have e : ∀ w : Int, 0 ≤ w → w < 6 → gz (sh g 10) ((r * 6) + w) = gz (sh f 10) ((r * 6) + w) := fun w g1 g2 => by
      rw [gz_sh (by omega) (by omega), gz_sh (by omega) (by omega)]
      exact h _ (by omega) (by omega)
    rw [e 0 (by omega) (by omega), e 1 (by omega) (by omega), e 2 (by omega) (by omega), e 3 (by omega) (by omega), e 4 (by omega) (by omega), e 5 (by omega) (by omega)]
    exact aF r h1 h2
  · rw [h 0 (by omega) (by omega), h 4 (by omega) (by omega)]
    intro o h1 h2
    rw [h _ (by omega) (by omega), h _ (by omega) (by omega)]
    exact aO o h1 h2
  · rw [h 0 (by omega) (by omega), h 5 (by omega) (by omega)]
    intro o h1 h2
    rw [h _ (by omega) (by omega), h _ (by omega) (by omega), h _ (by omega) (by omega), h _ (by omega) (by omega)]
    exact aS o h1 h2
theorem M0.far {f g : Nat → Int32} {i v : Int} (h : M0 f) (hg : g = upd f (iZ i).toNatClampNeg (iZ v)) (hi : (118 ≤ i ∧ i < 520) ∨ (884 ≤ i ∧ i < 2147483648)) (hv : -2147483648 ≤ v ∧ v < 2147483648) : M0 g :=
  M0.like (fun e h1 h2 h3 => by have c := gz_upc (j := e) hg (by omega) hv h1; omega) h
theorem M0.now {f g : Nat → Int32} {v : Int} (h : M0 f) (hg : g = upd f (iZ 3).toNatClampNeg (iZ v)) (hv : 0 ≤ v ∧ v ≤ 400) : M0 g :=
  M0.like3 (fun e h1 h2 h3 h4 => by have c := gz_upc (j := e) hg (by omega) (by omega) h1; omega) (by have c := gz_upc (j := 3) hg (by omega) (by omega) (by omega); omega) h
theorem M0.ord {f f1 f2 f3 : Nat → Int32} {e1 v1 e2 v2 v3 : Int} (h : M0 f) (hg1 : f1 = upd f (iZ e1).toNatClampNeg (iZ v1)) (hg2 : f2 = upd f1 (iZ e2).toNatClampNeg (iZ v2)) (hg3 : f3 = upd f2 (iZ 4).toNatClampNeg (iZ v3)) (he1 : e1 = 78 + 2 * gz f 4) (he2 : e2 = 79 + 2 * gz f 4) (hv1 : 0 ≤ v1 ∧ v1 < gz f 0) (hv2 : 0 ≤ v2 ∧ v2 ≤ 400) (hv3 : v3 = gz f 4 + 1) (ho : gz f 4 < 20) : M0 f3 := by
  obtain ⟨a0, a1, a3, a4, a5, aF, aO, aS⟩ := id h
  have c : ∀ j : Int, 0 ≤ j → (j = 4 ∧ gz f3 j = v3) ∨ (j = e2 ∧ gz f3 j = v2) ∨ (j = e1 ∧ gz f3 j = v1) ∨ (¬ j = 4 ∧ ¬ j = e2 ∧ ¬ j = e1 ∧ gz f3 j = gz f j) := fun j hj => by
    have c1 := gz_upc (j := j) hg1 (by omega) (by omega) hj
    have c2 := gz_upc (j := j) hg2 (by omega) (by omega) hj
    have c3 := gz_upc (j := j) hg3 (by omega) (by omega) hj
    omega
  have c0 := c 0 (by omega)
  have c1 := c 1 (by omega)
  have c3 := c 3 (by omega)
  have c4 := c 4 (by omega)
  have c5 := c 5 (by omega)
  refine ⟨by omega, by omega, by omega, by omega, by omega, ?_, ?_, ?_⟩
  · rw [show gz f3 0 = gz f 0 by omega]
    intro r h1 h2
    have e : ∀ w : Int, 0 ≤ w → w < 6 → gz (sh f3 10) ((r * 6) + w) = gz (sh f 10) ((r * 6) + w) := fun w g1 g2 => by
      rw [gz_sh (by omega) (by omega), gz_sh (by omega) (by omega)]
      have := c (10 + ((r * 6) + w)) (by omega)
      omega
    rw [e 0 (by omega) (by omega), e 1 (by omega) (by omega), e 2 (by omega) (by omega), e 3 (by omega) (by omega), e 4 (by omega) (by omega), e 5 (by omega) (by omega)]
    exact aF r h1 h2
  · intro o h1 h2
    have x1 := c (78 + (2 * o)) (by omega)
    have x2 := c ((78 + (2 * o)) + 1) (by omega)
    rcases Int.lt_or_eq_of_le (show o ≤ gz f 4 by omega) with q | q
    · have := aO o h1 q
      omega
    · omega
  · intro q h1 h2
    have := aS q h1 (by omega)
    have x0 := c (520 + (6 * q)) (by omega)
    have x1 := c ((520 + (6 * q)) + 1) (by omega)
    have x2 := c ((520 + (6 * q)) + 2) (by omega)
    have x4 := c ((520 + (6 * q)) + 4) (by omega)
    omega
/-- the length of the way to 0 of a set -/
def um (z : Int) : Nat := (iZ z).toBitVec.toNat
theorem um_lt {z z2 : Int} (hz : -2147483648 ≤ z ∧ z < 2147483648) (h0 : ¬ z = 0) (h : iZ z2 = iZ z &&& iZ (z - 1)) : um z2 < um z := by
  unfold um
  rw [h, Int32.toBitVec_and, BitVec.toNat_and]
  have e : iZ (z - 1) = iZ z - 1 := (iZ_sub z 1).symm
  rw [e, Int32.toBitVec_sub]
  have hne : (iZ z).toBitVec ≠ 0#32 := by
    intro q
    apply h0
    have : iZ z = 0 := Int32.toBitVec_inj.mp q
    exact (zne rfl hz).mp this
  generalize (iZ z).toBitVec = x at hne ⊢
  have h1 : x.toNat ≠ 0 := fun q => hne (BitVec.eq_of_toNat_eq q)
  have h2 : (x - (1 : Int32).toBitVec).toNat = x.toNat - 1 := by
    have := x.isLt
    have e1 : (1 : Int32).toBitVec = 1#32 := rfl
    rw [e1, BitVec.toNat_sub, show (1#32).toNat = 1 from rfl]
    omega
  have h3 := Nat.and_le_right (n := x.toNat) (m := (x - (1 : Int32).toBitVec).toNat)
  omega
/-- what is left of all loops -/
def sumP (f : Nat → Int32) : Nat → Int
  | 0 => 0
  | n + 1 => sumP f n + max 0 (gz f n)
theorem sumP_0 (f : Nat → Int32) (n : Nat) : 0 ≤ sumP f n := by
  induction n with
  | zero => exact Int.le_refl 0
  | succ n ih => show 0 ≤ sumP f n + max 0 (gz f n); omega
theorem sumP_up {f g : Nat → Int32} {o v : Int} (hg : g = upd f (iZ o).toNatClampNeg (iZ v)) (ho : 0 ≤ o ∧ o < 2147483648) (hv : -2147483648 ≤ v ∧ v < 2147483648) (n : Nat) : (o < n ∧ sumP g n = sumP f n + max 0 v - max 0 (gz f o)) ∨ (¬ o < n ∧ sumP g n = sumP f n) := by
  induction n with
  | zero => exact Or.inr ⟨by omega, rfl⟩
  | succ n ih =>
    have c := gz_upc (j := (n : Int)) hg ho hv (by omega)
    have e1 : sumP g (n + 1) = sumP g n + max 0 (gz g n) := rfl
    have e2 : sumP f (n + 1) = sumP f n + max 0 (gz f n) := rfl
    by_cases h : (n : Int) = o
    · rw [← h] at ih ⊢
      have c2 : gz g n = v := by omega
      left
      refine ⟨by omega, ?_⟩
      rw [e1, e2, c2]
      omega
    · have c2 : gz g n = gz f n := by omega
      rw [e1, e2, c2]
      omega
set_option maxHeartbeats 4000000 in
set_option maxRecDepth 100000 in
theorem m_wears (l : Launch) (D : va_G) (k : Nat → ClassId) (fs : List Value) (hm : Nat) (Ma : Nat) (Af : Nat → Int32) (x : Int) (y : Int) (f0 : fs[0]? = some (.ref Ma)) (hM : M0 Af) : WD (σ := ((Nat → Int) × (Nat → Int64) × (Nat → Nat → Int32) × (Nat → Nat → Int64))) l yX12_wears cX12_wears 3 none 0 0 0 D k [.ref hm, .int (iZ x), .int (iZ y)] [(hm, .inr (12, fs)), (Ma, .inl (k 1, 5340, .inl Af))] (fun _ => none) (fun u => (M0 (u.2.2.1 0)) ∧ (FR (u.2.2.1 0) Af)) (fun u => [(hm, .inr (12, fs)), (Ma, .inl (k 1, 5340, .inl (u.2.2.1 0)))]) := by
  refine MW (by decide) (Nat.le_of_ble_eq_true rfl) (fun p e s m below meth c ls A hx hb hml hr hlocks hin hts hown hKK hP hD hS hA hl => ?_)
  have hK := hKK.1
  have hl : lv_has ls 3 [(0, .ref hm), (1, .int (iZ x)), (2, .int (iZ y))] := hl
  obtain ⟨m0, m1, m3, m4, m5, mF, mO, mS⟩ := id hM
  refine lv_aload_n hx hb dX12_wears_0 rfl (lv_at hl 0 rfl) ?_
  refine va_get (D := D) (ci := 12) (v := .ref Ma) (C := RX12) (T := TX12) (N := 36) hx hb hts iX12 hown hK hP 0 rfl rfl 0 (by decide) (hts _ qf_X12_7) (fun _ h => h) f0 dX12_wears_1 ?_
  refine lv_bipush (v := iZ 118) hx hb dX12_wears_4 (by decide) ?_
  refine lv_aload_n hx hb dX12_wears_6 rfl (lv_at hl 0 rfl) ?_
  refine va_get (D := D) (ci := 12) (v := .ref Ma) (C := RX12) (T := TX12) (N := 36) hx hb hts iX12 hown hK hP 0 rfl rfl 0 (by decide) (hts _ qf_X12_7) (fun _ h => h) f0 dX12_wears_7 ?_
  refine lv_iconst (v := iZ 3) hx hb dX12_wears_10 (by decide) ?_
  refine va_iald hx hb hK hP 1 1 rfl rfl (zin (e := 3) (n := 5340) ⟨by omega, by omega⟩ (by decide)) dX12_wears_11 ?_
  refine lv_topi (fun x_1 ex_1 => ?_)
  obtain rfl : x_1 = iZ (gz Af 3) := ex_1.trans (gz_eq ⟨by omega, by omega⟩)
  have h_2 := gz_rg Af 3
  refine lv_iadd hx hb dX12_wears_12 ?_
  refine lv_topi (fun x_3 ex_3 => ?_)
  obtain rfl : x_3 = iZ (118 + (gz Af 3)) := ex_3.trans (iZ_add 118 (gz Af 3))
  refine lv_aload_n hx hb dX12_wears_13 rfl (lv_at hl 0 rfl) ?_
  refine va_get (D := D) (ci := 12) (v := .ref Ma) (C := RX12) (T := TX12) (N := 36) hx hb hts iX12 hown hK hP 0 rfl rfl 0 (by decide) (hts _ qf_X12_7) (fun _ h => h) f0 dX12_wears_14 ?_
  refine lv_bipush (v := iZ 118) hx hb dX12_wears_17 (by decide) ?_
  refine lv_aload_n hx hb dX12_wears_19 rfl (lv_at hl 0 rfl) ?_
  refine va_get (D := D) (ci := 12) (v := .ref Ma) (C := RX12) (T := TX12) (N := 36) hx hb hts iX12 hown hK hP 0 rfl rfl 0 (by decide) (hts _ qf_X12_7) (fun _ h => h) f0 dX12_wears_20 ?_
  refine lv_iconst (v := iZ 3) hx hb dX12_wears_23 (by decide) ?_
  refine va_iald hx hb hK hP 1 1 rfl rfl (zin (e := 3) (n := 5340) ⟨by omega, by omega⟩ (by decide)) dX12_wears_24 ?_
  refine lv_topi (fun x_4 ex_4 => ?_)
  obtain rfl : x_4 = iZ (gz Af 3) := ex_4.trans (gz_eq ⟨by omega, by omega⟩)
  have h_5 := gz_rg Af 3
  refine lv_iadd hx hb dX12_wears_25 ?_
  refine lv_topi (fun x_6 ex_6 => ?_)
  obtain rfl : x_6 = iZ (118 + (gz Af 3)) := ex_6.trans (iZ_add 118 (gz Af 3))
  refine va_iald hx hb hK hP 1 1 rfl rfl (zin (e := (118 + (gz Af 3))) (n := 5340) ⟨by omega, by omega⟩ (by decide)) dX12_wears_26 ?_
  refine lv_topi (fun x_7 ex_7 => ?_)
  obtain rfl : x_7 = iZ (gz Af (118 + (gz Af 3))) := ex_7.trans (gz_eq ⟨by omega, by omega⟩)
  have h_8 := gz_rg Af (118 + (gz Af 3))
  refine lv_iconst (v := iZ 1) hx hb dX12_wears_27 (by decide) ?_
  refine lv_iload_n hx hb dX12_wears_28 rfl (lv_at hl 1 rfl) ?_
  refine lv_ishl hx hb dX12_wears_29 ?_
  refine lv_topi (fun x_10 ex_10 => ?_)
  obtain ⟨z_9, hz_9, hz_9a, hz_9b⟩ := i32_z x_10
  subst hz_9
  refine lv_iconst (v := iZ (-1)) hx hb dX12_wears_30 (by decide) ?_
  refine lv_ixor hx hb dX12_wears_31 ?_
  refine lv_topi (fun x_12 ex_12 => ?_)
  obtain ⟨z_11, hz_11, hz_11a, hz_11b⟩ := i32_z x_12
  subst hz_11
  refine lv_iand hx hb dX12_wears_32 ?_
  refine lv_topi (fun x_14 ex_14 => ?_)
  obtain ⟨z_13, hz_13, hz_13a, hz_13b⟩ := i32_z x_14
  subst hz_13
  refine lv_iload_n hx hb dX12_wears_33 rfl (lv_at hl 2 rfl) ?_
  refine lv_iload_n hx hb dX12_wears_34 rfl (lv_at hl 1 rfl) ?_
  refine lv_ishl hx hb dX12_wears_35 ?_
  refine lv_topi (fun x_16 ex_16 => ?_)
  obtain ⟨z_15, hz_15, hz_15a, hz_15b⟩ := i32_z x_16
  subst hz_15
  refine lv_ior hx hb dX12_wears_36 ?_
  refine lv_topi (fun x_18 ex_18 => ?_)
  obtain ⟨z_17, hz_17, hz_17a, hz_17b⟩ := i32_z x_18
  subst hz_17
  refine va_iast hx hb hK hP hD hS 1 1 rfl rfl (zin (e := (118 + (gz Af 3))) (n := 5340) ⟨by omega, by omega⟩ (by decide)) dX12_wears_37 (fun H locs hP hD hS => ?_)
  obtain ⟨f_19, hf_19⟩ : ∃ gg9, gg9 = upd Af (iZ (118 + (gz Af 3))).toNatClampNeg (iZ z_17) := ⟨_, rfl⟩
  rw [← hf_19] at hP hD
  exact EWv hx hb hr hlocks hS (fun i => [0].getD i 0, fun i => [0].getD i 0, fun i => [f_19].getD i (fun _ => 0), fun i => [].getD i (fun _ => 0)) rfl ⟨(show M0 f_19 from (M0.far hM hf_19 (Or.inl ⟨by omega, by omega⟩) ⟨by omega, by omega⟩)), (show FR f_19 Af from (FR.up hf_19 (Or.inr (Or.inr ⟨by omega, by omega⟩)) ⟨by omega, by omega⟩))⟩ (hP.sub [0, 1] rfl) (hD.sub [0, 1] rfl rfl) dX12_wears_38
set_option maxHeartbeats 4000000 in
set_option maxRecDepth 100000 in
theorem m_orders (l : Launch) (D : va_G) (k : Nat → ClassId) (fs : List Value) (hm : Nat) (Ma : Nat) (Af : Nat → Int32) (x : Int) (f0 : fs[0]? = some (.ref Ma)) (hM : M0 Af) (h9x : 0 ≤ x ∧ x < gz Af 0) : WD (σ := ((Nat → Int) × (Nat → Int64) × (Nat → Nat → Int32) × (Nat → Nat → Int64))) l yX12_orders cX12_orders 2 (some .boolean) 1 0 0 D k [.ref hm, .int (iZ x)] [(hm, .inr (12, fs)), (Ma, .inl (k 1, 5340, .inl Af))] (fun u => some (.int (iZ (u.1 0)))) (fun u => (M0 (u.2.2.1 0)) ∧ (FR (u.2.2.1 0) Af) ∧ ((u.1 0) = 0 ∨ (u.1 0) = 1)) (fun u => [(hm, .inr (12, fs)), (Ma, .inl (k 1, 5340, .inl (u.2.2.1 0)))]) := by
  refine MW (by decide) (Nat.le_of_ble_eq_true rfl) (fun p e s m below meth c ls A hx hb hml hr hlocks hin hts hown hKK hP hD hS hA hl => ?_)
  have hK := hKK.1
  have hl : lv_has ls 2 [(0, .ref hm), (1, .int (iZ x))] := hl
  obtain ⟨m0, m1, m3, m4, m5, mF, mO, mS⟩ := id hM
  refine lv_aload_n hx hb dX12_orders_0 rfl (lv_at hl 0 rfl) ?_
  refine va_get (D := D) (ci := 12) (v := .ref Ma) (C := RX12) (T := TX12) (N := 36) hx hb hts iX12 hown hK hP 0 rfl rfl 0 (by decide) (hts _ qf_X12_7) (fun _ h => h) f0 dX12_orders_1 ?_
  refine lv_iconst (v := iZ 4) hx hb dX12_orders_4 (by decide) ?_
  refine va_iald hx hb hK hP 1 1 rfl rfl (zin (e := 4) (n := 5340) ⟨by omega, by omega⟩ (by decide)) dX12_orders_5 ?_
  refine lv_topi (fun x_1 ex_1 => ?_)
  obtain rfl : x_1 = iZ (gz Af 4) := ex_1.trans (gz_eq ⟨by omega, by omega⟩)
  have h_2 := gz_rg Af 4
  refine lv_bipush (v := iZ 20) hx hb dX12_orders_6 (by decide) ?_
  refine lv_icmp_ne (tgt := 13) hx hb dX12_orders_8 (by decide) (fun c_3 => ?_) (fun c_3 => ?_)
  ·
    have c_3 := mt (zeq (x := iZ (gz Af 4)) (y := iZ 20) rfl rfl ⟨by omega, by omega⟩ ⟨by omega, by omega⟩).mpr c_3
    refine lv_aload_n hx hb dX12_orders_13 rfl (lv_at hl 0 rfl) ?_
    refine va_get (D := D) (ci := 12) (v := .ref Ma) (C := RX12) (T := TX12) (N := 36) hx hb hts iX12 hown hK hP 0 rfl rfl 0 (by decide) (hts _ qf_X12_7) (fun _ h => h) f0 dX12_orders_14 ?_
    refine lv_aload_n hx hb dX12_orders_17 rfl (lv_at hl 0 rfl) ?_
    refine va_get (D := D) (ci := 12) (v := .ref Ma) (C := RX12) (T := TX12) (N := 36) hx hb hts iX12 hown hK hP 0 rfl rfl 0 (by decide) (hts _ qf_X12_7) (fun _ h => h) f0 dX12_orders_18 ?_
    refine lv_iconst (v := iZ 4) hx hb dX12_orders_21 (by decide) ?_
    refine va_iald hx hb hK hP 1 1 rfl rfl (zin (e := 4) (n := 5340) ⟨by omega, by omega⟩ (by decide)) dX12_orders_22 ?_
    refine lv_topi (fun x_4 ex_4 => ?_)
    obtain rfl : x_4 = iZ (gz Af 4) := ex_4.trans (gz_eq ⟨by omega, by omega⟩)
    have h_5 := gz_rg Af 4
    refine CRS (As := [.int (iZ (gz Af 4))]) (rest := [.ref Ma]) hx hb hml hown hts hKK (hP.sub (ws' := []) [] rfl) (m_givenRow l D k (gz Af 4)) ci_X12_givenRow qm_X12_315 ⟨Nat.le_of_ble_eq_true rfl, Nat.le_of_ble_eq_true rfl⟩ ⟨Nat.le_of_ble_eq_true rfl, Nat.le_of_ble_eq_true rfl⟩ rfl hl.1 rfl (Nat.le_of_ble_eq_true rfl) dX12_orders_23 ?_
    refine lv_iload_n hx hb dX12_orders_26 rfl (lv_at hl 1 rfl) ?_
    refine va_iast hx hb hK hP hD hS 1 1 rfl rfl (zin (e := (78 + (2 * (gz Af 4)))) (n := 5340) ⟨by omega, by omega⟩ (by decide)) dX12_orders_27 (fun H locs hP hD hS => ?_)
    obtain ⟨f_6, hf_6⟩ : ∃ gg9, gg9 = upd Af (iZ (78 + (2 * (gz Af 4)))).toNatClampNeg (iZ x) := ⟨_, rfl⟩
    rw [← hf_6] at hP hD
    refine lv_aload_n hx hb dX12_orders_28 rfl (lv_at hl 0 rfl) ?_
    refine va_get (D := D) (ci := 12) (v := .ref Ma) (C := RX12) (T := TX12) (N := 36) hx hb hts iX12 hown hK hP 0 rfl rfl 0 (by decide) (hts _ qf_X12_7) (fun _ h => h) f0 dX12_orders_29 ?_
    refine lv_aload_n hx hb dX12_orders_32 rfl (lv_at hl 0 rfl) ?_
    refine va_get (D := D) (ci := 12) (v := .ref Ma) (C := RX12) (T := TX12) (N := 36) hx hb hts iX12 hown hK hP 0 rfl rfl 0 (by decide) (hts _ qf_X12_7) (fun _ h => h) f0 dX12_orders_33 ?_
    refine lv_iconst (v := iZ 4) hx hb dX12_orders_36 (by decide) ?_
    refine va_iald hx hb hK hP 1 1 rfl rfl (zin (e := 4) (n := 5340) ⟨by omega, by omega⟩ (by decide)) dX12_orders_37 ?_
    refine lv_topi (fun x_7 ex_7 => ?_)
    obtain rfl : x_7 = iZ (gz f_6 4) := ex_7.trans (gz_eq ⟨by omega, by omega⟩)
    have h_8 := gz_rg f_6 4
    have ch_9 := gz_upc (j := 4) hf_6 ⟨by omega, by omega⟩ ⟨by omega, by omega⟩ (by omega)
    refine CRS (As := [.int (iZ (gz f_6 4))]) (rest := [.ref Ma]) hx hb hml hown hts hKK (hP.sub (ws' := []) [] rfl) (m_givenRow l D k (gz f_6 4)) ci_X12_givenRow qm_X12_315 ⟨Nat.le_of_ble_eq_true rfl, Nat.le_of_ble_eq_true rfl⟩ ⟨Nat.le_of_ble_eq_true rfl, Nat.le_of_ble_eq_true rfl⟩ rfl hl.1 rfl (Nat.le_of_ble_eq_true rfl) dX12_orders_38 ?_
    refine lv_iconst (v := iZ 1) hx hb dX12_orders_41 (by decide) ?_
    refine lv_iadd hx hb dX12_orders_42 ?_
    refine lv_topi (fun x_10 ex_10 => ?_)
    obtain rfl : x_10 = iZ ((78 + (2 * (gz f_6 4))) + 1) := ex_10.trans (iZ_add (78 + (2 * (gz f_6 4))) 1)
    refine lv_aload_n hx hb dX12_orders_43 rfl (lv_at hl 0 rfl) ?_
    refine va_get (D := D) (ci := 12) (v := .ref Ma) (C := RX12) (T := TX12) (N := 36) hx hb hts iX12 hown hK hP 0 rfl rfl 0 (by decide) (hts _ qf_X12_7) (fun _ h => h) f0 dX12_orders_44 ?_
    refine lv_iconst (v := iZ 3) hx hb dX12_orders_47 (by decide) ?_
    refine va_iald hx hb hK hP 1 1 rfl rfl (zin (e := 3) (n := 5340) ⟨by omega, by omega⟩ (by decide)) dX12_orders_48 ?_
    refine lv_topi (fun x_11 ex_11 => ?_)
    obtain rfl : x_11 = iZ (gz f_6 3) := ex_11.trans (gz_eq ⟨by omega, by omega⟩)
    have h_12 := gz_rg f_6 3
    have ch_13 := gz_upc (j := 3) hf_6 ⟨by omega, by omega⟩ ⟨by omega, by omega⟩ (by omega)
    refine va_iast hx hb hK hP hD hS 1 1 rfl rfl (zin (e := ((78 + (2 * (gz f_6 4))) + 1)) (n := 5340) ⟨by omega, by omega⟩ (by decide)) dX12_orders_49 (fun H locs hP hD hS => ?_)
    obtain ⟨f_14, hf_14⟩ : ∃ gg9, gg9 = upd f_6 (iZ ((78 + (2 * (gz f_6 4))) + 1)).toNatClampNeg (iZ (gz f_6 3)) := ⟨_, rfl⟩
    rw [← hf_14] at hP hD
    refine lv_aload_n hx hb dX12_orders_50 rfl (lv_at hl 0 rfl) ?_
    refine va_get (D := D) (ci := 12) (v := .ref Ma) (C := RX12) (T := TX12) (N := 36) hx hb hts iX12 hown hK hP 0 rfl rfl 0 (by decide) (hts _ qf_X12_7) (fun _ h => h) f0 dX12_orders_51 ?_
    refine lv_iconst (v := iZ 4) hx hb dX12_orders_54 (by decide) ?_
    refine lv_dup2_11 hx hb dX12_orders_55 rfl rfl ?_
    refine va_iald hx hb hK hP 1 1 rfl rfl (zin (e := 4) (n := 5340) ⟨by omega, by omega⟩ (by decide)) dX12_orders_56 ?_
    refine lv_topi (fun x_15 ex_15 => ?_)
    obtain rfl : x_15 = iZ (gz f_14 4) := ex_15.trans (gz_eq ⟨by omega, by omega⟩)
    have h_16 := gz_rg f_14 4
    have ch_17 := gz_upc (j := 4) hf_6 ⟨by omega, by omega⟩ ⟨by omega, by omega⟩ (by omega)
    have ch_18 := gz_upc (j := 4) hf_14 ⟨by omega, by omega⟩ ⟨by omega, by omega⟩ (by omega)
    refine lv_iconst (v := iZ 1) hx hb dX12_orders_57 (by decide) ?_
    refine lv_iadd hx hb dX12_orders_58 ?_
    refine lv_topi (fun x_19 ex_19 => ?_)
    obtain rfl : x_19 = iZ ((gz f_14 4) + 1) := ex_19.trans (iZ_add (gz f_14 4) 1)
    refine va_iast hx hb hK hP hD hS 1 1 rfl rfl (zin (e := 4) (n := 5340) ⟨by omega, by omega⟩ (by decide)) dX12_orders_59 (fun H locs hP hD hS => ?_)
    obtain ⟨f_20, hf_20⟩ : ∃ gg9, gg9 = upd f_14 (iZ 4).toNatClampNeg (iZ ((gz f_14 4) + 1)) := ⟨_, rfl⟩
    rw [← hf_20] at hP hD
    refine lv_iconst (v := iZ 1) hx hb dX12_orders_60 (by decide) ?_
    exact EWz hx hb hr hlocks hS (fun i => [1].getD i 0, fun i => [0].getD i 0, fun i => [f_20].getD i (fun _ => 0), fun i => [].getD i (fun _ => 0)) rfl rfl ⟨(show M0 f_20 from (M0.ord hM hf_6 hf_14 hf_20 (by omega) (by omega) ⟨by omega, by omega⟩ ⟨by omega, by omega⟩ (by omega) (by omega))), (show FR f_20 Af from (FR.tr (FR.up hf_20 (Or.inr (Or.inl rfl)) ⟨by omega, by omega⟩) (FR.tr (FR.up hf_14 (Or.inr (Or.inr ⟨by omega, by omega⟩)) ⟨by omega, by omega⟩) (FR.up hf_6 (Or.inr (Or.inr ⟨by omega, by omega⟩)) ⟨by omega, by omega⟩)))), (show 1 = 0 ∨ 1 = 1 from (Or.inr rfl))⟩ (hP.sub [0, 1] rfl) (hD.sub [0, 1] rfl rfl) dX12_orders_61
  ·
    have c_3 := (zeq (x := iZ (gz Af 4)) (y := iZ 20) rfl rfl ⟨by omega, by omega⟩ ⟨by omega, by omega⟩).mp c_3
    refine lv_iconst (v := iZ 0) hx hb dX12_orders_11 (by decide) ?_
    exact EWz hx hb hr hlocks hS (fun i => [0].getD i 0, fun i => [0].getD i 0, fun i => [Af].getD i (fun _ => 0), fun i => [].getD i (fun _ => 0)) rfl rfl ⟨(show M0 Af from hM), (show FR Af Af from (FR.rf Af)), (show 0 = 0 ∨ 0 = 1 from (Or.inl rfl))⟩ (hP.sub [0, 1] rfl) (hD.sub [0, 1] rfl rfl) dX12_orders_12
set_option maxHeartbeats 4000000 in
set_option maxRecDepth 100000 in
theorem m_goes (l : Launch) (D : va_G) (k : Nat → ClassId) (fs : List Value) (hm : Nat) (Ma : Nat) (Af : Nat → Int32) (f0 : fs[0]? = some (.ref Ma)) (hM : M0 Af) : WD (σ := ((Nat → Int) × (Nat → Int64) × (Nat → Nat → Int32) × (Nat → Nat → Int64))) l yX12_goes cX12_goes 7 (some .boolean) 7 0 0 D k [.ref hm] [(hm, .inr (12, fs)), (Ma, .inl (k 1, 5340, .inl Af))] (fun u => some (.int (iZ (u.1 0)))) (fun u => (M0 (u.2.2.1 0)) ∧ (FR (u.2.2.1 0) Af) ∧ ((u.1 0) = 0 ∨ (u.1 0) = 1)) (fun u => [(hm, .inr (12, fs)), (Ma, .inl (k 1, 5340, .inl (u.2.2.1 0)))]) := by
  refine MW (by decide) (Nat.le_of_ble_eq_true rfl) (fun p e s m below meth c ls A hx hb hml hr hlocks hin hts hown hKK hP hD hS hA hl => ?_)
  have hK := hKK.1
  have hl : lv_has ls 7 [(0, .ref hm)] := hl
  obtain ⟨m0, m1, m3, m4, m5, mF, mO, mS⟩ := id hM
  refine lv_aload_n hx hb dX12_goes_0 rfl (lv_at hl 0 rfl) ?_
  refine va_get (D := D) (ci := 12) (v := .ref Ma) (C := RX12) (T := TX12) (N := 36) hx hb hts iX12 hown hK hP 0 rfl rfl 0 (by decide) (hts _ qf_X12_7) (fun _ h => h) f0 dX12_goes_1 ?_
  refine lv_iconst (v := iZ 3) hx hb dX12_goes_4 (by decide) ?_
  refine va_iald hx hb hK hP 1 1 rfl rfl (zin (e := 3) (n := 5340) ⟨by omega, by omega⟩ (by decide)) dX12_goes_5 ?_
  refine lv_topi (fun x_1 ex_1 => ?_)
  obtain rfl : x_1 = iZ (gz Af 3) := ex_1.trans (gz_eq ⟨by omega, by omega⟩)
  have h_2 := gz_rg Af 3
  refine lv_sipush (v := iZ 400) hx hb dX12_goes_6 (by decide) ?_
  refine lv_icmp_ne (tgt := 14) hx hb dX12_goes_9 (by decide) (fun c_3 => ?_) (fun c_3 => ?_)
  ·
    have c_3 := mt (zeq (x := iZ (gz Af 3)) (y := iZ 400) rfl rfl ⟨by omega, by omega⟩ ⟨by omega, by omega⟩).mpr c_3
    refine lv_aload_n hx hb dX12_goes_14 rfl (lv_at hl 0 rfl) ?_
    refine va_get (D := D) (ci := 12) (v := .ref Ma) (C := RX12) (T := TX12) (N := 36) hx hb hts iX12 hown hK hP 0 rfl rfl 0 (by decide) (hts _ qf_X12_7) (fun _ h => h) f0 dX12_goes_15 ?_
    refine lv_iconst (v := iZ 3) hx hb dX12_goes_18 (by decide) ?_
    refine va_iald hx hb hK hP 1 1 rfl rfl (zin (e := 3) (n := 5340) ⟨by omega, by omega⟩ (by decide)) dX12_goes_19 ?_
    refine lv_topi (fun x_4 ex_4 => ?_)
    obtain rfl : x_4 = iZ (gz Af 3) := ex_4.trans (gz_eq ⟨by omega, by omega⟩)
    have h_5 := gz_rg Af 3
    refine lv_iconst (v := iZ 1) hx hb dX12_goes_20 (by decide) ?_
    refine lv_iadd hx hb dX12_goes_21 ?_
    refine lv_topi (fun x_6 ex_6 => ?_)
    obtain rfl : x_6 = iZ ((gz Af 3) + 1) := ex_6.trans (iZ_add (gz Af 3) 1)
    refine lv_istore_n (lv' := [(1, .int (iZ ((gz Af 3) + 1))), (0, .ref hm)]) hx hb dX12_goes_22 rfl hl (by decide) rfl (fun ls hl => ?_)
    refine lv_iconst (v := iZ 0) hx hb dX12_goes_23 (by decide) ?_
    refine lv_istore_n (lv' := [(2, .int (iZ 0)), (1, .int (iZ ((gz Af 3) + 1))), (0, .ref hm)]) hx hb dX12_goes_24 rfl hl (by decide) rfl (fun ls hl => ?_)
    refine lv_iconst (v := iZ 0) hx hb dX12_goes_25 (by decide) ?_
    refine lv_istore_n (lv' := [(3, .int (iZ 0)), (2, .int (iZ 0)), (1, .int (iZ ((gz Af 3) + 1))), (0, .ref hm)]) hx hb dX12_goes_26 rfl hl (by decide) rfl (fun ls hl => ?_)
    have HL27 : ∀ (fu : Nat) (v2_27 : Int) (v3_27 : Int) (H : Heap) (locs : List Loc) (ls : Array Slot), ((gz Af 0) + 2 - v3_27) < (fu : Int) → ((0 ≤ v3_27 ∧ v3_27 ≤ (gz Af 0) + 1)) → (-2147483648 ≤ v2_27 ∧ v2_27 < 2147483648) → va_P D vwCl [(hm, .inr (12, fs)), (Ma, .inl (k 1, 5340, .inl Af))] H → va_D A [(hm, .inr (12, fs)), (Ma, .inl (k 1, 5340, .inl Af))] → va_S A s.heap H locs → lv_has ls 7 [(3, .int (iZ v3_27)), (2, .int (iZ v2_27)), (1, .int (iZ ((gz Af 3) + 1))), (0, .ref hm)] → W p l e (rj 7 0 0) s m [.ref hm].toArray below meth c H locs 0 0 (MQ below (QW (σ := ((Nat → Int) × (Nat → Int64) × (Nat → Nat → Int32) × (Nat → Nat → Int64))) (fun u => some (.int (iZ (u.1 0)))) (fun u => (M0 (u.2.2.1 0)) ∧ (FR (u.2.2.1 0) Af) ∧ ((u.1 0) = 0 ∨ (u.1 0) = 1)) (fun u => [(hm, .inr (12, fs)), (Ma, .inl (k 1, 5340, .inl (u.2.2.1 0)))]) D A) [.ref hm].toArray s 0 0 A) (F0 m 27 ls []) := by
      intro fu
      induction fu with
      | zero => intro v2_27 v3_27 H locs ls hμ27 hi27 hf0_27 hP hD hS hl; exact absurd hμ27 (by omega)
      | succ fu ih27 =>
        intro v2_27 v3_27 H locs ls hμ27 hi27 hf0_27 hP hD hS hl
        refine lv_iload_n hx hb dX12_goes_27 rfl (lv_at hl 0 rfl) ?_
        refine lv_aload_n hx hb dX12_goes_28 rfl (lv_at hl 3 rfl) ?_
        refine va_get (D := D) (ci := 12) (v := .ref Ma) (C := RX12) (T := TX12) (N := 36) hx hb hts iX12 hown hK hP 0 rfl rfl 0 (by decide) (hts _ qf_X12_7) (fun _ h => h) f0 dX12_goes_29 ?_
        refine lv_iconst (v := iZ 0) hx hb dX12_goes_32 (by decide) ?_
        refine va_iald hx hb hK hP 1 1 rfl rfl (zin (e := 0) (n := 5340) ⟨by omega, by omega⟩ (by decide)) dX12_goes_33 ?_
        refine lv_topi (fun x_7 ex_7 => ?_)
        obtain rfl : x_7 = iZ (gz Af 0) := ex_7.trans (gz_eq ⟨by omega, by omega⟩)
        have h_8 := gz_rg Af 0
        refine lv_icmp_ge (tgt := 145) hx hb dX12_goes_34 (by decide) (fun c_9 => ?_) (fun c_9 => ?_)
        ·
          have c_9 := (zle (x := iZ (gz Af 0)) (y := iZ v3_27) rfl rfl ⟨by omega, by omega⟩ ⟨by omega, by omega⟩).mp c_9
          refine lv_aload_n hx hb dX12_goes_145 rfl (lv_at hl 3 rfl) ?_
          refine va_get (D := D) (ci := 12) (v := .ref Ma) (C := RX12) (T := TX12) (N := 36) hx hb hts iX12 hown hK hP 0 rfl rfl 0 (by decide) (hts _ qf_X12_7) (fun _ h => h) f0 dX12_goes_146 ?_
          refine lv_bipush (v := iZ 118) hx hb dX12_goes_149 (by decide) ?_
          refine lv_iload_n hx hb dX12_goes_151 rfl (lv_at hl 2 rfl) ?_
          refine lv_iadd hx hb dX12_goes_152 ?_
          refine lv_topi (fun x_10 ex_10 => ?_)
          obtain rfl : x_10 = iZ (118 + ((gz Af 3) + 1)) := ex_10.trans (iZ_add 118 ((gz Af 3) + 1))
          refine lv_iload_n hx hb dX12_goes_153 rfl (lv_at hl 1 rfl) ?_
          refine va_iast hx hb hK hP hD hS 1 1 rfl rfl (zin (e := (118 + ((gz Af 3) + 1))) (n := 5340) ⟨by omega, by omega⟩ (by decide)) dX12_goes_154 (fun H locs hP hD hS => ?_)
          obtain ⟨f_11, hf_11⟩ : ∃ gg9, gg9 = upd Af (iZ (118 + ((gz Af 3) + 1))).toNatClampNeg (iZ v2_27) := ⟨_, rfl⟩
          rw [← hf_11] at hP hD
          refine lv_aload_n hx hb dX12_goes_155 rfl (lv_at hl 3 rfl) ?_
          refine va_get (D := D) (ci := 12) (v := .ref Ma) (C := RX12) (T := TX12) (N := 36) hx hb hts iX12 hown hK hP 0 rfl rfl 0 (by decide) (hts _ qf_X12_7) (fun _ h => h) f0 dX12_goes_156 ?_
          refine lv_iconst (v := iZ 3) hx hb dX12_goes_159 (by decide) ?_
          refine lv_iload_n hx hb dX12_goes_160 rfl (lv_at hl 2 rfl) ?_
          refine va_iast hx hb hK hP hD hS 1 1 rfl rfl (zin (e := 3) (n := 5340) ⟨by omega, by omega⟩ (by decide)) dX12_goes_161 (fun H locs hP hD hS => ?_)
          obtain ⟨f_12, hf_12⟩ : ∃ gg9, gg9 = upd f_11 (iZ 3).toNatClampNeg (iZ ((gz Af 3) + 1)) := ⟨_, rfl⟩
          rw [← hf_12] at hP hD
          refine lv_iconst (v := iZ 1) hx hb dX12_goes_162 (by decide) ?_
          exact EWz hx hb hr hlocks hS (fun i => [1].getD i 0, fun i => [0].getD i 0, fun i => [f_12].getD i (fun _ => 0), fun i => [].getD i (fun _ => 0)) rfl rfl ⟨(show M0 f_12 from (M0.now (M0.far hM hf_11 (Or.inl ⟨by omega, by omega⟩) ⟨by omega, by omega⟩) hf_12 ⟨by omega, by omega⟩)), (show FR f_12 Af from (FR.tr (FR.up hf_12 (Or.inl rfl) ⟨by omega, by omega⟩) (FR.up hf_11 (Or.inr (Or.inr ⟨by omega, by omega⟩)) ⟨by omega, by omega⟩))), (show 1 = 0 ∨ 1 = 1 from (Or.inr rfl))⟩ (hP.sub [0, 1] rfl) (hD.sub [0, 1] rfl rfl) dX12_goes_163
        ·
          have c_9 := mt (zle (x := iZ (gz Af 0)) (y := iZ v3_27) rfl rfl ⟨by omega, by omega⟩ ⟨by omega, by omega⟩).mpr c_9
          refine lv_iconst (v := iZ 0) hx hb dX12_goes_37 (by decide) ?_
          refine lv_istore (lv' := [(4, .int (iZ 0)), (3, .int (iZ v3_27)), (2, .int (iZ v2_27)), (1, .int (iZ ((gz Af 3) + 1))), (0, .ref hm)]) hx hb dX12_goes_38 hl (by decide) rfl (fun ls hl => ?_)
          refine lv_iconst (v := iZ 0) hx hb dX12_goes_40 (by decide) ?_
          refine lv_istore (lv' := [(5, .int (iZ 0)), (4, .int (iZ 0)), (3, .int (iZ v3_27)), (2, .int (iZ v2_27)), (1, .int (iZ ((gz Af 3) + 1))), (0, .ref hm)]) hx hb dX12_goes_41 hl (by decide) rfl (fun ls hl => ?_)
          have HL43 : ∀ (fu : Nat) (v4_43 : Int) (v5_43 : Int) (H : Heap) (locs : List Loc) (ls : Array Slot), ((gz Af 0) + 2 - v5_43) < (fu : Int) → ((0 ≤ v5_43 ∧ v5_43 ≤ (gz Af 0) + 1)) → (-(v5_43) ≤ v4_43 ∧ v4_43 ≤ v5_43) → va_P D vwCl [(hm, .inr (12, fs)), (Ma, .inl (k 1, 5340, .inl Af))] H → va_D A [(hm, .inr (12, fs)), (Ma, .inl (k 1, 5340, .inl Af))] → va_S A s.heap H locs → lv_has ls 7 [(5, .int (iZ v5_43)), (4, .int (iZ v4_43)), (3, .int (iZ v3_27)), (2, .int (iZ v2_27)), (1, .int (iZ ((gz Af 3) + 1))), (0, .ref hm)] → W p l e (rj 7 0 0) s m [.ref hm].toArray below meth c H locs 0 0 (MQ below (QW (σ := ((Nat → Int) × (Nat → Int64) × (Nat → Nat → Int32) × (Nat → Nat → Int64))) (fun u => some (.int (iZ (u.1 0)))) (fun u => (M0 (u.2.2.1 0)) ∧ (FR (u.2.2.1 0) Af) ∧ ((u.1 0) = 0 ∨ (u.1 0) = 1)) (fun u => [(hm, .inr (12, fs)), (Ma, .inl (k 1, 5340, .inl (u.2.2.1 0)))]) D A) [.ref hm].toArray s 0 0 A) (F0 m 43 ls []) := by
            intro fu
            induction fu with
            | zero => intro v4_43 v5_43 H locs ls hμ43 hi43 hf0_43 hP hD hS hl; exact absurd hμ43 (by omega)
            | succ fu ih43 =>
              intro v4_43 v5_43 H locs ls hμ43 hi43 hf0_43 hP hD hS hl
              refine lv_iload hx hb dX12_goes_43 (lv_at hl 0 rfl) ?_
              refine lv_aload_n hx hb dX12_goes_45 rfl (lv_at hl 5 rfl) ?_
              refine va_get (D := D) (ci := 12) (v := .ref Ma) (C := RX12) (T := TX12) (N := 36) hx hb hts iX12 hown hK hP 0 rfl rfl 0 (by decide) (hts _ qf_X12_7) (fun _ h => h) f0 dX12_goes_46 ?_
              refine lv_iconst (v := iZ 0) hx hb dX12_goes_49 (by decide) ?_
              refine va_iald hx hb hK hP 1 1 rfl rfl (zin (e := 0) (n := 5340) ⟨by omega, by omega⟩ (by decide)) dX12_goes_50 ?_
              refine lv_topi (fun x_13 ex_13 => ?_)
              obtain rfl : x_13 = iZ (gz Af 0) := ex_13.trans (gz_eq ⟨by omega, by omega⟩)
              have h_14 := gz_rg Af 0
              refine lv_icmp_ge (tgt := 105) hx hb dX12_goes_51 (by decide) (fun c_15 => ?_) (fun c_15 => ?_)
              ·
                have c_15 := (zle (x := iZ (gz Af 0)) (y := iZ v5_43) rfl rfl ⟨by omega, by omega⟩ ⟨by omega, by omega⟩).mp c_15
                refine lv_iload_n hx hb dX12_goes_105 rfl (lv_at hl 3 rfl) ?_
                refine lv_iload hx hb dX12_goes_106 (lv_at hl 1 rfl) ?_
                refine lv_if_le (tgt := 115) hx hb dX12_goes_108 (by decide) (fun c_16 => ?_) (fun c_16 => ?_)
                ·
                  have c_16 := (zle (x := iZ v4_43) (y := iZ 0) rfl rfl ⟨by omega, by omega⟩ ⟨by omega, by omega⟩).mp c_16
                  refine lv_iload hx hb dX12_goes_115 (lv_at hl 1 rfl) ?_
                  refine lv_if_ge (tgt := 124) hx hb dX12_goes_117 (by decide) (fun c_17 => ?_) (fun c_17 => ?_)
                  ·
                    have c_17 := (zle (x := iZ 0) (y := iZ v4_43) rfl rfl ⟨by omega, by omega⟩ ⟨by omega, by omega⟩).mp c_17
                    refine lv_aload_n hx hb dX12_goes_124 rfl (lv_at hl 5 rfl) ?_
                    refine lv_iload_n hx hb dX12_goes_125 rfl (lv_at hl 2 rfl) ?_
                    refine lv_aload_n hx hb dX12_goes_126 rfl (lv_at hl 5 rfl) ?_
                    refine va_get (D := D) (ci := 12) (v := .ref Ma) (C := RX12) (T := TX12) (N := 36) hx hb hts iX12 hown hK hP 0 rfl rfl 0 (by decide) (hts _ qf_X12_7) (fun _ h => h) f0 dX12_goes_127 ?_
                    refine lv_iconst (v := iZ 3) hx hb dX12_goes_130 (by decide) ?_
                    refine va_iald hx hb hK hP 1 1 rfl rfl (zin (e := 3) (n := 5340) ⟨by omega, by omega⟩ (by decide)) dX12_goes_131 ?_
                    refine lv_topi (fun x_18 ex_18 => ?_)
                    obtain rfl : x_18 = iZ (gz Af 3) := ex_18.trans (gz_eq ⟨by omega, by omega⟩)
                    have h_19 := gz_rg Af 3
                    refine CPV (As := [.int (iZ v3_27), .int (iZ (gz Af 3))]) (rest := [.int (iZ v2_27)]) hx hb hml hown hts hKK hP (m_wore l D k fs hm Ma Af v3_27 (gz Af 3) f0 hM ⟨by omega, by omega⟩) ci_X12_woreIn qm_X12_363 ⟨Nat.le_of_ble_eq_true rfl, Nat.le_of_ble_eq_true rfl⟩ ⟨Nat.le_of_ble_eq_true rfl, Nat.le_of_ble_eq_true rfl⟩ 0 rfl rfl rfl hl.1 rfl (Nat.le_of_ble_eq_true rfl) dX12_goes_132 (fun z_20 hz_20 => ?_)
                    have hbz_20 := hz_20.2
                    refine lv_iload_n hx hb dX12_goes_135 rfl (lv_at hl 2 rfl) ?_
                    refine lv_ishl hx hb dX12_goes_136 ?_
                    refine lv_topi (fun x_22 ex_22 => ?_)
                    obtain ⟨z_21, hz_21, hz_21a, hz_21b⟩ := i32_z x_22
                    subst hz_21
                    refine lv_ior hx hb dX12_goes_137 ?_
                    refine lv_topi (fun x_24 ex_24 => ?_)
                    obtain ⟨z_23, hz_23, hz_23a, hz_23b⟩ := i32_z x_24
                    subst hz_23
                    refine lv_istore_n (lv' := [(2, .int (iZ z_23)), (5, .int (iZ v5_43)), (4, .int (iZ v4_43)), (3, .int (iZ v3_27)), (1, .int (iZ ((gz Af 3) + 1))), (0, .ref hm)]) hx hb dX12_goes_138 rfl hl (by decide) rfl (fun ls hl => ?_)
                    refine lv_iinc (v := iZ (v3_27 + 1)) (lv' := [(3, .int (iZ (v3_27 + 1))), (2, .int (iZ z_23)), (5, .int (iZ v5_43)), (4, .int (iZ v4_43)), (1, .int (iZ ((gz Af 3) + 1))), (0, .ref hm)]) hx hb dX12_goes_139 hl (k := 3) rfl (iZ_add v3_27 1) (by decide) rfl (fun ls hl => ?_)
                    refine lv_goto (tgt := 27) hx hb dX12_goes_142 (by decide) ?_
                    exact ih27  z_23 (v3_27 + 1) _ _ _ (by omega) (show (0 ≤ (v3_27 + 1) ∧ (v3_27 + 1) ≤ (gz Af 0) + 1) from ⟨by omega, by omega⟩) (show -2147483648 ≤ z_23 ∧ z_23 < 2147483648 from (by omega)) (hP.sub [0, 1] rfl) (hD.sub [0, 1] rfl rfl) hS (lv_sub hl [0, 1, 4, 5] rfl)
                  ·
                    have c_17 := mt (zle (x := iZ 0) (y := iZ v4_43) rfl rfl ⟨by omega, by omega⟩ ⟨by omega, by omega⟩).mpr c_17
                    refine lv_iconst (v := iZ 0) hx hb dX12_goes_120 (by decide) ?_
                    refine lv_goto (tgt := 135) hx hb dX12_goes_121 (by decide) ?_
                    refine lv_iload_n hx hb dX12_goes_135 rfl (lv_at hl 2 rfl) ?_
                    refine lv_ishl hx hb dX12_goes_136 ?_
                    refine lv_topi (fun x_26 ex_26 => ?_)
                    obtain ⟨z_25, hz_25, hz_25a, hz_25b⟩ := i32_z x_26
                    subst hz_25
                    refine lv_ior hx hb dX12_goes_137 ?_
                    refine lv_topi (fun x_28 ex_28 => ?_)
                    obtain ⟨z_27, hz_27, hz_27a, hz_27b⟩ := i32_z x_28
                    subst hz_27
                    refine lv_istore_n (lv' := [(2, .int (iZ z_27)), (5, .int (iZ v5_43)), (4, .int (iZ v4_43)), (3, .int (iZ v3_27)), (1, .int (iZ ((gz Af 3) + 1))), (0, .ref hm)]) hx hb dX12_goes_138 rfl hl (by decide) rfl (fun ls hl => ?_)
                    refine lv_iinc (v := iZ (v3_27 + 1)) (lv' := [(3, .int (iZ (v3_27 + 1))), (2, .int (iZ z_27)), (5, .int (iZ v5_43)), (4, .int (iZ v4_43)), (1, .int (iZ ((gz Af 3) + 1))), (0, .ref hm)]) hx hb dX12_goes_139 hl (k := 3) rfl (iZ_add v3_27 1) (by decide) rfl (fun ls hl => ?_)
                    refine lv_goto (tgt := 27) hx hb dX12_goes_142 (by decide) ?_
                    exact ih27  z_27 (v3_27 + 1) _ _ _ (by omega) (show (0 ≤ (v3_27 + 1) ∧ (v3_27 + 1) ≤ (gz Af 0) + 1) from ⟨by omega, by omega⟩) (show -2147483648 ≤ z_27 ∧ z_27 < 2147483648 from (by omega)) (hP.sub [0, 1] rfl) (hD.sub [0, 1] rfl rfl) hS (lv_sub hl [0, 1, 4, 5] rfl)
                ·
                  have c_16 := mt (zle (x := iZ v4_43) (y := iZ 0) rfl rfl ⟨by omega, by omega⟩ ⟨by omega, by omega⟩).mpr c_16
                  refine lv_iconst (v := iZ 1) hx hb dX12_goes_111 (by decide) ?_
                  refine lv_goto (tgt := 135) hx hb dX12_goes_112 (by decide) ?_
                  refine lv_iload_n hx hb dX12_goes_135 rfl (lv_at hl 2 rfl) ?_
                  refine lv_ishl hx hb dX12_goes_136 ?_
                  refine lv_topi (fun x_30 ex_30 => ?_)
                  obtain ⟨z_29, hz_29, hz_29a, hz_29b⟩ := i32_z x_30
                  subst hz_29
                  refine lv_ior hx hb dX12_goes_137 ?_
                  refine lv_topi (fun x_32 ex_32 => ?_)
                  obtain ⟨z_31, hz_31, hz_31a, hz_31b⟩ := i32_z x_32
                  subst hz_31
                  refine lv_istore_n (lv' := [(2, .int (iZ z_31)), (5, .int (iZ v5_43)), (4, .int (iZ v4_43)), (3, .int (iZ v3_27)), (1, .int (iZ ((gz Af 3) + 1))), (0, .ref hm)]) hx hb dX12_goes_138 rfl hl (by decide) rfl (fun ls hl => ?_)
                  refine lv_iinc (v := iZ (v3_27 + 1)) (lv' := [(3, .int (iZ (v3_27 + 1))), (2, .int (iZ z_31)), (5, .int (iZ v5_43)), (4, .int (iZ v4_43)), (1, .int (iZ ((gz Af 3) + 1))), (0, .ref hm)]) hx hb dX12_goes_139 hl (k := 3) rfl (iZ_add v3_27 1) (by decide) rfl (fun ls hl => ?_)
                  refine lv_goto (tgt := 27) hx hb dX12_goes_142 (by decide) ?_
                  exact ih27  z_31 (v3_27 + 1) _ _ _ (by omega) (show (0 ≤ (v3_27 + 1) ∧ (v3_27 + 1) ≤ (gz Af 0) + 1) from ⟨by omega, by omega⟩) (show -2147483648 ≤ z_31 ∧ z_31 < 2147483648 from (by omega)) (hP.sub [0, 1] rfl) (hD.sub [0, 1] rfl rfl) hS (lv_sub hl [0, 1, 4, 5] rfl)
              ·
                have c_15 := mt (zle (x := iZ (gz Af 0)) (y := iZ v5_43) rfl rfl ⟨by omega, by omega⟩ ⟨by omega, by omega⟩).mpr c_15
                refine lv_iload hx hb dX12_goes_54 (lv_at hl 0 rfl) ?_
                refine lv_iload_n hx hb dX12_goes_56 rfl (lv_at hl 2 rfl) ?_
                refine lv_icmp_ne (tgt := 64) hx hb dX12_goes_57 (by decide) (fun c_33 => ?_) (fun c_33 => ?_)
                ·
                  have c_33 := mt (zeq (x := iZ v5_43) (y := iZ v3_27) rfl rfl ⟨by omega, by omega⟩ ⟨by omega, by omega⟩).mpr c_33
                  refine lv_aload_n hx hb dX12_goes_64 rfl (lv_at hl 5 rfl) ?_
                  refine lv_iload_n hx hb dX12_goes_65 rfl (lv_at hl 2 rfl) ?_
                  refine lv_iload hx hb dX12_goes_66 (lv_at hl 0 rfl) ?_
                  refine lv_iload_n hx hb dX12_goes_68 rfl (lv_at hl 4 rfl) ?_
                  refine CPV (As := [.int (iZ v3_27), .int (iZ v5_43), .int (iZ ((gz Af 3) + 1))]) (rest := []) hx hb hml hown hts hKK hP (m_fseen l D k fs hm Ma Af v3_27 v5_43 ((gz Af 3) + 1) f0 hM ⟨by omega, by omega⟩ ⟨by omega, by omega⟩ ⟨by omega, by omega⟩) ci_X12_fashionSeen qm_X12_366 ⟨Nat.le_of_ble_eq_true rfl, Nat.le_of_ble_eq_true rfl⟩ ⟨Nat.le_of_ble_eq_true rfl, Nat.le_of_ble_eq_true rfl⟩ 0 rfl rfl rfl hl.1 rfl (Nat.le_of_ble_eq_true rfl) dX12_goes_69 (fun z_34 hz_34 => ?_)
                  refine lv_istore (lv' := [(6, .int (iZ z_34)), (5, .int (iZ v5_43)), (4, .int (iZ v4_43)), (3, .int (iZ v3_27)), (2, .int (iZ v2_27)), (1, .int (iZ ((gz Af 3) + 1))), (0, .ref hm)]) hx hb dX12_goes_72 hl (by decide) rfl (fun ls hl => ?_)
                  refine lv_iload hx hb dX12_goes_74 (lv_at hl 2 rfl) ?_
                  refine lv_iload hx hb dX12_goes_76 (lv_at hl 0 rfl) ?_
                  refine lv_iconst (v := iZ 1) hx hb dX12_goes_78 (by decide) ?_
                  refine lv_icmp_ne (tgt := 86) hx hb dX12_goes_79 (by decide) (fun c_35 => ?_) (fun c_35 => ?_)
                  ·
                    have c_35 := mt (zeq (x := iZ z_34) (y := iZ 1) rfl rfl ⟨by omega, by omega⟩ ⟨by omega, by omega⟩).mpr c_35
                    refine lv_iload hx hb dX12_goes_86 (lv_at hl 0 rfl) ?_
                    refine lv_if_ne (tgt := 95) hx hb dX12_goes_88 (by decide) (fun c_36 => ?_) (fun c_36 => ?_)
                    ·
                      have c_36 := mt (zeq (x := iZ z_34) (y := iZ 0) rfl rfl ⟨by omega, by omega⟩ ⟨by omega, by omega⟩).mpr c_36
                      refine lv_iconst (v := iZ 0) hx hb dX12_goes_95 (by decide) ?_
                      refine lv_iadd hx hb dX12_goes_96 ?_
                      refine lv_topi (fun x_37 ex_37 => ?_)
                      obtain rfl : x_37 = iZ (v4_43 + 0) := ex_37.trans (iZ_add v4_43 0)
                      refine lv_istore (lv' := [(4, .int (iZ (v4_43 + 0))), (6, .int (iZ z_34)), (5, .int (iZ v5_43)), (3, .int (iZ v3_27)), (2, .int (iZ v2_27)), (1, .int (iZ ((gz Af 3) + 1))), (0, .ref hm)]) hx hb dX12_goes_97 hl (by decide) rfl (fun ls hl => ?_)
                      refine lv_iinc (v := iZ (v5_43 + 1)) (lv' := [(5, .int (iZ (v5_43 + 1))), (4, .int (iZ (v4_43 + 0))), (6, .int (iZ z_34)), (3, .int (iZ v3_27)), (2, .int (iZ v2_27)), (1, .int (iZ ((gz Af 3) + 1))), (0, .ref hm)]) hx hb dX12_goes_99 hl (k := 2) rfl (iZ_add v5_43 1) (by decide) rfl (fun ls hl => ?_)
                      refine lv_goto (tgt := 43) hx hb dX12_goes_102 (by decide) ?_
                      exact ih43  (v4_43 + 0) (v5_43 + 1) _ _ _ (by omega) (show (0 ≤ (v5_43 + 1) ∧ (v5_43 + 1) ≤ (gz Af 0) + 1) from ⟨by omega, by omega⟩) (show -((v5_43 + 1)) ≤ (v4_43 + 0) ∧ (v4_43 + 0) ≤ (v5_43 + 1) from (by omega)) (hP.sub [0, 1] rfl) (hD.sub [0, 1] rfl rfl) hS (lv_sub hl [0, 1, 3, 4, 5, 6] rfl)
                    ·
                      have c_36 := (zeq (x := iZ z_34) (y := iZ 0) rfl rfl ⟨by omega, by omega⟩ ⟨by omega, by omega⟩).mp c_36
                      refine lv_iconst (v := iZ (-1)) hx hb dX12_goes_91 (by decide) ?_
                      refine lv_goto (tgt := 96) hx hb dX12_goes_92 (by decide) ?_
                      refine lv_iadd hx hb dX12_goes_96 ?_
                      refine lv_topi (fun x_38 ex_38 => ?_)
                      obtain rfl : x_38 = iZ (v4_43 + (-1)) := ex_38.trans (iZ_add v4_43 (-1))
                      refine lv_istore (lv' := [(4, .int (iZ (v4_43 + (-1)))), (6, .int (iZ z_34)), (5, .int (iZ v5_43)), (3, .int (iZ v3_27)), (2, .int (iZ v2_27)), (1, .int (iZ ((gz Af 3) + 1))), (0, .ref hm)]) hx hb dX12_goes_97 hl (by decide) rfl (fun ls hl => ?_)
                      refine lv_iinc (v := iZ (v5_43 + 1)) (lv' := [(5, .int (iZ (v5_43 + 1))), (4, .int (iZ (v4_43 + (-1)))), (6, .int (iZ z_34)), (3, .int (iZ v3_27)), (2, .int (iZ v2_27)), (1, .int (iZ ((gz Af 3) + 1))), (0, .ref hm)]) hx hb dX12_goes_99 hl (k := 2) rfl (iZ_add v5_43 1) (by decide) rfl (fun ls hl => ?_)
                      refine lv_goto (tgt := 43) hx hb dX12_goes_102 (by decide) ?_
                      exact ih43  (v4_43 + (-1)) (v5_43 + 1) _ _ _ (by omega) (show (0 ≤ (v5_43 + 1) ∧ (v5_43 + 1) ≤ (gz Af 0) + 1) from ⟨by omega, by omega⟩) (show -((v5_43 + 1)) ≤ (v4_43 + (-1)) ∧ (v4_43 + (-1)) ≤ (v5_43 + 1) from (by omega)) (hP.sub [0, 1] rfl) (hD.sub [0, 1] rfl rfl) hS (lv_sub hl [0, 1, 3, 4, 5, 6] rfl)
                  ·
                    have c_35 := (zeq (x := iZ z_34) (y := iZ 1) rfl rfl ⟨by omega, by omega⟩ ⟨by omega, by omega⟩).mp c_35
                    refine lv_iconst (v := iZ 1) hx hb dX12_goes_82 (by decide) ?_
                    refine lv_goto (tgt := 96) hx hb dX12_goes_83 (by decide) ?_
                    refine lv_iadd hx hb dX12_goes_96 ?_
                    refine lv_topi (fun x_39 ex_39 => ?_)
                    obtain rfl : x_39 = iZ (v4_43 + 1) := ex_39.trans (iZ_add v4_43 1)
                    refine lv_istore (lv' := [(4, .int (iZ (v4_43 + 1))), (6, .int (iZ z_34)), (5, .int (iZ v5_43)), (3, .int (iZ v3_27)), (2, .int (iZ v2_27)), (1, .int (iZ ((gz Af 3) + 1))), (0, .ref hm)]) hx hb dX12_goes_97 hl (by decide) rfl (fun ls hl => ?_)
                    refine lv_iinc (v := iZ (v5_43 + 1)) (lv' := [(5, .int (iZ (v5_43 + 1))), (4, .int (iZ (v4_43 + 1))), (6, .int (iZ z_34)), (3, .int (iZ v3_27)), (2, .int (iZ v2_27)), (1, .int (iZ ((gz Af 3) + 1))), (0, .ref hm)]) hx hb dX12_goes_99 hl (k := 2) rfl (iZ_add v5_43 1) (by decide) rfl (fun ls hl => ?_)
                    refine lv_goto (tgt := 43) hx hb dX12_goes_102 (by decide) ?_
                    exact ih43  (v4_43 + 1) (v5_43 + 1) _ _ _ (by omega) (show (0 ≤ (v5_43 + 1) ∧ (v5_43 + 1) ≤ (gz Af 0) + 1) from ⟨by omega, by omega⟩) (show -((v5_43 + 1)) ≤ (v4_43 + 1) ∧ (v4_43 + 1) ≤ (v5_43 + 1) from (by omega)) (hP.sub [0, 1] rfl) (hD.sub [0, 1] rfl rfl) hS (lv_sub hl [0, 1, 3, 4, 5, 6] rfl)
                ·
                  have c_33 := (zeq (x := iZ v5_43) (y := iZ v3_27) rfl rfl ⟨by omega, by omega⟩ ⟨by omega, by omega⟩).mp c_33
                  refine lv_iconst (v := iZ (-1)) hx hb dX12_goes_60 (by decide) ?_
                  refine lv_goto (tgt := 72) hx hb dX12_goes_61 (by decide) ?_
                  refine lv_istore (lv' := [(6, .int (iZ (-1))), (5, .int (iZ v5_43)), (4, .int (iZ v4_43)), (3, .int (iZ v3_27)), (2, .int (iZ v2_27)), (1, .int (iZ ((gz Af 3) + 1))), (0, .ref hm)]) hx hb dX12_goes_72 hl (by decide) rfl (fun ls hl => ?_)
                  refine lv_iload hx hb dX12_goes_74 (lv_at hl 2 rfl) ?_
                  refine lv_iload hx hb dX12_goes_76 (lv_at hl 0 rfl) ?_
                  refine lv_iconst (v := iZ 1) hx hb dX12_goes_78 (by decide) ?_
                  refine lv_icmp_ne (tgt := 86) hx hb dX12_goes_79 (by decide) (fun _ => ?_) (fun c => absurd c (by decide))
                  refine lv_iload hx hb dX12_goes_86 (lv_at hl 0 rfl) ?_
                  refine lv_if_ne (tgt := 95) hx hb dX12_goes_88 (by decide) (fun _ => ?_) (fun c => absurd c (by decide))
                  refine lv_iconst (v := iZ 0) hx hb dX12_goes_95 (by decide) ?_
                  refine lv_iadd hx hb dX12_goes_96 ?_
                  refine lv_topi (fun x_42 ex_42 => ?_)
                  obtain rfl : x_42 = iZ (v4_43 + 0) := ex_42.trans (iZ_add v4_43 0)
                  refine lv_istore (lv' := [(4, .int (iZ (v4_43 + 0))), (6, .int (iZ (-1))), (5, .int (iZ v5_43)), (3, .int (iZ v3_27)), (2, .int (iZ v2_27)), (1, .int (iZ ((gz Af 3) + 1))), (0, .ref hm)]) hx hb dX12_goes_97 hl (by decide) rfl (fun ls hl => ?_)
                  refine lv_iinc (v := iZ (v5_43 + 1)) (lv' := [(5, .int (iZ (v5_43 + 1))), (4, .int (iZ (v4_43 + 0))), (6, .int (iZ (-1))), (3, .int (iZ v3_27)), (2, .int (iZ v2_27)), (1, .int (iZ ((gz Af 3) + 1))), (0, .ref hm)]) hx hb dX12_goes_99 hl (k := 2) rfl (iZ_add v5_43 1) (by decide) rfl (fun ls hl => ?_)
                  refine lv_goto (tgt := 43) hx hb dX12_goes_102 (by decide) ?_
                  exact ih43  (v4_43 + 0) (v5_43 + 1) _ _ _ (by omega) (show (0 ≤ (v5_43 + 1) ∧ (v5_43 + 1) ≤ (gz Af 0) + 1) from ⟨by omega, by omega⟩) (show -((v5_43 + 1)) ≤ (v4_43 + 0) ∧ (v4_43 + 0) ≤ (v5_43 + 1) from (by omega)) (hP.sub [0, 1] rfl) (hD.sub [0, 1] rfl rfl) hS (lv_sub hl [0, 1, 3, 4, 5, 6] rfl)
          exact HL43 10 0 0 _ _ _ (by omega) (show (0 ≤ 0 ∧ 0 ≤ (gz Af 0) + 1) from ⟨by omega, by omega⟩) (show -(0) ≤ 0 ∧ 0 ≤ 0 from (by omega)) (hP.sub [0, 1] rfl) (hD.sub [0, 1] rfl rfl) hS (lv_sub hl [0, 1, 2, 3, 4, 5] rfl)
    exact HL27 10 0 0 _ _ _ (by omega) (show (0 ≤ 0 ∧ 0 ≤ (gz Af 0) + 1) from ⟨by omega, by omega⟩) (show -2147483648 ≤ 0 ∧ 0 < 2147483648 from (by omega)) (hP.sub [0, 1] rfl) (hD.sub [0, 1] rfl rfl) hS (lv_sub hl [0, 1, 2, 3] rfl)
  ·
    have c_3 := (zeq (x := iZ (gz Af 3)) (y := iZ 400) rfl rfl ⟨by omega, by omega⟩ ⟨by omega, by omega⟩).mp c_3
    refine lv_iconst (v := iZ 0) hx hb dX12_goes_12 (by decide) ?_
    exact EWz hx hb hr hlocks hS (fun i => [0].getD i 0, fun i => [0].getD i 0, fun i => [Af].getD i (fun _ => 0), fun i => [].getD i (fun _ => 0)) rfl rfl ⟨(show M0 Af from hM), (show FR Af Af from (FR.rf Af)), (show 0 = 0 ∨ 0 = 1 from (Or.inl rfl))⟩ (hP.sub [0, 1] rfl) (hD.sub [0, 1] rfl rfl) dX12_goes_13
set_option maxHeartbeats 4000000 in
set_option maxRecDepth 100000 in
theorem m_draw (l : Launch) (D : va_G) (k : Nat → ClassId) (hm : Nat) (Ma : Nat) (Mn : Nat) (Ms : Nat) (My : Nat) (Mt : Nat) (Mp : Nat) (Mx : Nat) (Mo : Nat) (Mk : Nat) (Ml : Nat) (Mb : Nat) (Mh : Nat) (Mc : Nat) (Mz : Nat) (Mr : Nat) (Mq : Nat) (Mst : Int) (Mtd : Int) (Msz : Int) (Mtk : Int) (Mfr : Int) (Men : Int) (Mva : Int) (Mfk : Int) (Mfp : Int) (Mfs : Int) (Mse : Int) (Mlt : Int) (Mdp : Int) (Mct : Int) (Mdr : Int) (Mrs : Int) (Mit : Int) (Mmk : Int) (Mtp : Int64) (Mbt : Int64) (hdr : 0 ≤ Mdr ∧ Mdr ≤ 65535) : WD (σ := ((Nat → Int) × (Nat → Int64) × (Nat → Nat → Int32) × (Nat → Nat → Int64))) l yX12_draw cX12_draw 1 (some .int) 0 0 0 D k [.ref hm] [(hm, .inr (12, [.ref Ma, .ref Mn, .int (iZ Mst), .long Mtp, .long Mbt, .ref Ms, .ref My, .ref Mt, .ref Mp, .ref Mx, .int (iZ Mtd), .int (iZ Msz), .int (iZ Mtk), .int (iZ Mfr), .int (iZ Men), .int (iZ Mva), .int (iZ Mfk), .int (iZ Mfp), .int (iZ Mfs), .int (iZ Mse), .int (iZ Mlt), .ref Mo, .int (iZ Mdp), .int (iZ Mct), .ref Mk, .ref Ml, .ref Mb, .ref Mh, .ref Mc, .int (iZ Mdr), .int (iZ Mrs), .ref Mz, .ref Mr, .ref Mq, .int (iZ Mit), .int (iZ Mmk)]))] (fun u => some (.int (iZ (u.1 0)))) (fun u => (0 ≤ (u.1 1) ∧ (u.1 1) ≤ 65535) ∧ 0 ≤ (u.1 0) ∧ (u.1 0) ≤ 15) (fun u => [(hm, .inr (12, [.ref Ma, .ref Mn, .int (iZ Mst), .long Mtp, .long Mbt, .ref Ms, .ref My, .ref Mt, .ref Mp, .ref Mx, .int (iZ Mtd), .int (iZ Msz), .int (iZ Mtk), .int (iZ Mfr), .int (iZ Men), .int (iZ Mva), .int (iZ Mfk), .int (iZ Mfp), .int (iZ Mfs), .int (iZ Mse), .int (iZ Mlt), .ref Mo, .int (iZ Mdp), .int (iZ Mct), .ref Mk, .ref Ml, .ref Mb, .ref Mh, .ref Mc, .int (iZ (u.1 1)), .int (iZ Mrs), .ref Mz, .ref Mr, .ref Mq, .int (iZ Mit), .int (iZ Mmk)]))]) := by
  refine MW (by decide) (Nat.le_of_ble_eq_true rfl) (fun p e s m below meth c ls A hx hb hml hr hlocks hin hts hown hKK hP hD hS hA hl => ?_)
  have hK := hKK.1
  have hl : lv_has ls 1 [(0, .ref hm)] := hl
  refine lv_aload_n hx hb dX12_draw_0 rfl (lv_at hl 0 rfl) ?_
  refine lv_aload_n hx hb dX12_draw_1 rfl (lv_at hl 0 rfl) ?_
  refine va_get (D := D) (ci := 12) (v := .int (iZ Mdr)) (C := RX12) (T := TX12) (N := 36) hx hb hts iX12 hown hK hP 0 rfl rfl 29 (by decide) (hts _ qf_X12_380) (fun _ h => h) rfl dX12_draw_2 ?_
  refine lv_sipush (v := iZ 2893) hx hb dX12_draw_5 (by decide) ?_
  refine lv_imul hx hb dX12_draw_8 ?_
  refine lv_topi (fun x_1 ex_1 => ?_)
  obtain rfl : x_1 = iZ (Mdr * 2893) := ex_1.trans (iZ_mul Mdr 2893)
  refine lv_sipush (v := iZ 11093) hx hb dX12_draw_9 (by decide) ?_
  refine lv_iadd hx hb dX12_draw_12 ?_
  refine lv_topi (fun x_2 ex_2 => ?_)
  obtain rfl : x_2 = iZ ((Mdr * 2893) + 11093) := ex_2.trans (iZ_add (Mdr * 2893) 11093)
  refine lv_ldcw (own := RX12) (v := 65536) hx hb hown (hts _ qk_X12_383) dX12_draw_13 ?_
  refine W.eq (g2 := F0 m 16 ls [.int (iZ 65536), .int (iZ ((Mdr * 2893) + 11093)), .ref hm]) rfl ?_
  refine lv_irem hx hb dX12_draw_16 (by rw [zne rfl ⟨by omega, by omega⟩]; omega) ?_
  refine lv_topi (fun x_3 ex_3 => ?_)
  obtain rfl : x_3 = iZ (((Mdr * 2893) + 11093) % 65536) := ex_3.trans (iZ_rem (a := ((Mdr * 2893) + 11093)) (b := 65536) (by omega) (by omega) (by omega) (by omega))
  refine va_put (D := D) (ci := 12) (v := .int (iZ (((Mdr * 2893) + 11093) % 65536))) (ty := .int) (C := RX12) (T := TX12) (N := 36) hx hb hts iX12 tyX12 tyX12_ok nmX12 hown hK hP hD hS 0 rfl rfl 29 (by decide) (hts _ qf_X12_380) (fun _ h => h) rfl (by decide +kernel) rfl rfl (Nat.le_of_ble_eq_true rfl) dX12_draw_17 (fun H locs hP hD hS => ?_)
  refine lv_aload_n hx hb dX12_draw_20 rfl (lv_at hl 0 rfl) ?_
  refine va_get (D := D) (ci := 12) (v := .int (iZ (((Mdr * 2893) + 11093) % 65536))) (C := RX12) (T := TX12) (N := 36) hx hb hts iX12 hown hK hP 0 rfl rfl 29 (by decide) (hts _ qf_X12_380) (fun _ h => h) rfl dX12_draw_21 ?_
  refine lv_bipush (v := iZ 8) hx hb dX12_draw_24 (by decide) ?_
  refine lv_idiv hx hb dX12_draw_26 (by rw [zne rfl ⟨by omega, by omega⟩]; omega) ?_
  have hd_26 := zdiv_b (a := (((Mdr * 2893) + 11093) % 65536)) (b := 8) (by omega) (by omega)
  refine lv_topi (fun x_4 ex_4 => ?_)
  obtain rfl : x_4 = iZ ((((Mdr * 2893) + 11093) % 65536) / 8) := ex_4.trans (iZ_div (a := (((Mdr * 2893) + 11093) % 65536)) (b := 8) (by omega) (by omega) (by omega) (by omega))
  refine lv_bipush (v := iZ 16) hx hb dX12_draw_27 (by decide) ?_
  refine lv_irem hx hb dX12_draw_29 (by rw [zne rfl ⟨by omega, by omega⟩]; omega) ?_
  refine lv_topi (fun x_5 ex_5 => ?_)
  obtain rfl : x_5 = iZ (((((Mdr * 2893) + 11093) % 65536) / 8) % 16) := ex_5.trans (iZ_rem (a := ((((Mdr * 2893) + 11093) % 65536) / 8)) (b := 16) (by omega) (by omega) (by omega) (by omega))
  exact EWi hx hb hr hlocks hS (fun i => [(((((Mdr * 2893) + 11093) % 65536) / 8) % 16), (((Mdr * 2893) + 11093) % 65536)].getD i 0, fun i => [0].getD i 0, fun i => [].getD i (fun _ => 0), fun i => [].getD i (fun _ => 0)) rfl (show (0 ≤ (((Mdr * 2893) + 11093) % 65536) ∧ (((Mdr * 2893) + 11093) % 65536) ≤ 65535) ∧ 0 ≤ (((((Mdr * 2893) + 11093) % 65536) / 8) % 16) ∧ (((((Mdr * 2893) + 11093) % 65536) / 8) % 16) ≤ 15 from (by omega)) (hP.sub [0] rfl) (hD.sub [0] rfl rfl) dX12_draw_30
set_option maxHeartbeats 4000000 in
set_option maxRecDepth 100000 in
theorem m_bits (l : Launch) (D : va_G) (k : Nat → ClassId) (x : Int) (h9x : -2147483648 ≤ x ∧ x < 2147483648) : RP l yX12_bits cX12_bits 3 (some .int) 0 D k [.int (iZ x)] [] (fun z => ∃ v9 : Int, z = v9) := by
  refine MRP (by decide) (Nat.le_of_ble_eq_true rfl) (fun p e s m below meth c ls hx hb hml hr hlocks hts hown hKK hP hl => ?_)
  have hK := hKK.1
  have hl : lv_has ls 3 [(0, .int (iZ x))] := hl
  refine lv_iconst (v := iZ 0) hx hb dX12_bits_0 (by decide) ?_
  refine lv_istore_n (lv' := [(1, .int (iZ 0)), (0, .int (iZ x))]) hx hb dX12_bits_1 rfl hl (by decide) rfl (fun ls hl => ?_)
  refine lv_iload_n hx hb dX12_bits_2 rfl (lv_at hl 1 rfl) ?_
  refine lv_istore_n (lv' := [(2, .int (iZ x)), (1, .int (iZ 0)), (0, .int (iZ x))]) hx hb dX12_bits_3 rfl hl (by decide) rfl (fun ls hl => ?_)
  have HL1 : ∀ (fu : Nat) (ct kk : Int) (ls : Array Slot), ((um kk : Nat) : Int) < (fu : Int) → (-2147483648 ≤ kk ∧ kk < 2147483648) → lv_has ls 3 [(2, .int (iZ kk)), (1, .int (iZ ct)), (0, .int (iZ x))] → W p l e (rj 0 0 0) s m [.int (iZ x)].toArray below meth c s.heap [] 0 0 (MQ below (QcP (fun z => ∃ v9 : Int, z = v9)) [.int (iZ x)].toArray s 0 0 (fun _ => False)) (F0 m 4 ls []) := by
    intro fu
    induction fu with
    | zero => intro ct kk ls hμ1 hkk hl; exact absurd hμ1 (by omega)
    | succ fu ih1 =>
      intro ct kk ls hμ1 hkk hl
      refine lv_iload_n hx hb dX12_bits_4 rfl (lv_at hl 0 rfl) ?_
      refine lv_if_eq (tgt := 20) hx hb dX12_bits_5 (by decide) (fun c_1 => ?_) (fun c_1 => ?_)
      ·
        have c_1 := (zeq (x := iZ kk) (y := iZ 0) rfl rfl ⟨by omega, by omega⟩ ⟨by omega, by omega⟩).mp c_1
        refine lv_iload_n hx hb dX12_bits_20 rfl (lv_at hl 1 rfl) ?_
        exact EPi hx hb hr hlocks ⟨_, rfl⟩ dX12_bits_21
      ·
        have c_1 := mt (zeq (x := iZ kk) (y := iZ 0) rfl rfl ⟨by omega, by omega⟩ ⟨by omega, by omega⟩).mpr c_1
        refine lv_iinc (v := iZ (ct + 1)) (lv' := [(1, .int (iZ (ct + 1))), (2, .int (iZ kk)), (0, .int (iZ x))]) hx hb dX12_bits_8 hl (k := 1) rfl (iZ_add ct 1) (by decide) rfl (fun ls hl => ?_)
        refine lv_iload_n hx hb dX12_bits_11 rfl (lv_at hl 1 rfl) ?_
        refine lv_iload_n hx hb dX12_bits_12 rfl (lv_at hl 1 rfl) ?_
        refine lv_iconst (v := iZ 1) hx hb dX12_bits_13 (by decide) ?_
        refine lv_isub hx hb dX12_bits_14 ?_
        refine lv_topi (fun x_2 ex_2 => ?_)
        obtain rfl : x_2 = iZ (kk - 1) := ex_2.trans (iZ_sub kk 1)
        refine lv_iand hx hb dX12_bits_15 ?_
        refine lv_topi (fun x_4 ex_4 => ?_)
        obtain ⟨z_3, hz_3, hz_3a, hz_3b⟩ := i32_z x_4
        subst hz_3
        have hum := um_lt hkk (by omega) (by assumption)
        refine lv_istore_n (lv' := [(2, .int (iZ z_3)), (1, .int (iZ (ct + 1))), (0, .int (iZ x))]) hx hb dX12_bits_16 rfl hl (by decide) rfl (fun ls hl => ?_)
        refine lv_goto (tgt := 4) hx hb dX12_bits_17 (by decide) ?_
        exact ih1  (ct + 1) z_3 _ (by omega) ⟨by omega, by omega⟩ (lv_sub hl [0, 1, 2] rfl)
  exact HL1 (um x + 1) 0 x _ (by omega) h9x (lv_sub hl [0, 1, 2] rfl)
