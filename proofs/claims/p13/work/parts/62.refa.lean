/-- a row seen from a place on -/
def sh (f : Nat → Int32) (c : Int) : Nat → Int32 := fun i => f (c.toNat + i)
theorem gz_sh {f : Nat → Int32} {c e : Int} (hc : 0 ≤ c) (he : 0 ≤ e) : gz (sh f c) e = gz f (c + e) := by
  unfold gz sh
  rw [show c.toNat + e.toNat = (c + e).toNat by omega]
theorem sh10 (f : Nat → Int32) {r : Int} (w : Int) (hr : 0 ≤ r) (hw : 0 ≤ w) : gz (sh f 10) ((r * 6) + w) = gz f ((10 + (6 * r)) + w) := by
  rw [gz_sh (by omega) (by omega), show 10 + ((r * 6) + w) = (10 + (6 * r)) + w by omega]
theorem sh10z (f : Nat → Int32) {r : Int} (hr : 0 ≤ r) : gz (sh f 10) ((r * 6) + 0) = gz f (10 + (6 * r)) := by
  rw [gz_sh (by omega) (by omega), show 10 + ((r * 6) + 0) = 10 + (6 * r) by omega]
theorem sh46 (f : Nat → Int32) {r : Int} (w : Int) (hr : 0 ≤ r) (hw : 0 ≤ w) : gz (sh f 46) ((r * 4) + w) = gz f ((46 + (4 * r)) + w) := by
  rw [gz_sh (by omega) (by omega), show 46 + ((r * 4) + w) = (46 + (4 * r)) + w by omega]
theorem sh46z (f : Nat → Int32) {r : Int} (hr : 0 ≤ r) : gz (sh f 46) ((r * 4) + 0) = gz f (46 + (4 * r)) := by
  rw [gz_sh (by omega) (by omega), show 46 + ((r * 4) + 0) = 46 + (4 * r) by omega]
/-- the state of the reference, from place 0 on -/
def M0 (f : Nat → Int32) : Prop := (0 ≤ gz f 0 ∧ gz f 0 ≤ 6) ∧ (0 ≤ gz f 1 ∧ gz f 1 ≤ 8) ∧ (0 ≤ gz f 3 ∧ gz f 3 ≤ 400) ∧ (0 ≤ gz f 4 ∧ gz f 4 ≤ 20) ∧ (-1 ≤ gz f 5 ∧ gz f 5 ≤ 60) ∧ FXI (sh f 10) (gz f 0)
  ∧ (∀ o : Int, 0 ≤ o → o < gz f 4 → (0 ≤ gz f (78 + (2 * o)) ∧ gz f (78 + (2 * o)) < gz f 0) ∧ (0 ≤ gz f ((78 + (2 * o)) + 1) ∧ gz f ((78 + (2 * o)) + 1) ≤ 400))
  ∧ (∀ k : Int, 0 ≤ k → k < gz f 5 → (gz f (520 + (6 * k)) = 17 → 0 ≤ gz f ((520 + (6 * k)) + 1) ∧ gz f ((520 + (6 * k)) + 1) < gz f 0) ∧ (gz f (520 + (6 * k)) = 1923 → 0 ≤ gz f ((520 + (6 * k)) + 2) ∧ gz f ((520 + (6 * k)) + 2) < 6) ∧ (0 ≤ gz f ((520 + (6 * k)) + 4) ∧ gz f ((520 + (6 * k)) + 4) < gz f 5))
theorem M0.fx {f : Nat → Int32} (h : M0 f) (r : Int) (h1 : 0 ≤ r) (h2 : r < gz f 0) : (0 ≤ gz f (10 + (6 * r)) ∧ gz f (10 + (6 * r)) ≤ 20) ∧ (1 ≤ gz f ((10 + (6 * r)) + 1) ∧ gz f ((10 + (6 * r)) + 1) ≤ 99) ∧ (0 ≤ gz f ((10 + (6 * r)) + 2) ∧ gz f ((10 + (6 * r)) + 2) ≤ 11) ∧ (0 ≤ gz f ((10 + (6 * r)) + 3) ∧ gz f ((10 + (6 * r)) + 3) ≤ 9) ∧ (0 ≤ gz f ((10 + (6 * r)) + 4) ∧ gz f ((10 + (6 * r)) + 4) ≤ 99) ∧ (0 ≤ gz f ((10 + (6 * r)) + 5) ∧ gz f ((10 + (6 * r)) + 5) ≤ 20) := by
  have := h.2.2.2.2.2.1 r h1 h2
  rw [sh10z f h1, sh10 f 1 h1 (by omega), sh10 f 2 h1 (by omega), sh10 f 3 h1 (by omega), sh10 f 4 h1 (by omega), sh10 f 5 h1 (by omega)] at this
  exact this
theorem hd_at (f : Nat → Int32) {r : Int} (w : Int) (hr : 0 ≤ r) : ((gz f ((10 + (6 * r)) + 2) + ((12 * w) / gz f ((10 + (6 * r)) + 1))) % 12) = hd (sh f 10) r w := by
  unfold hd
  rw [sh10 f 1 hr (by omega), sh10 f 2 hr (by omega)]
theorem sp_a {h g : Int} (c : zab (h - g) ≤ 6) : sp h g = zab (h - g) := by
  have e : tn h g = zab (h - g) := by unfold tn zab; split <;> split <;> omega
  unfold sp
  rw [e, if_pos c]
theorem sp_b {h g : Int} (c : ¬ zab (h - g) ≤ 6) : sp h g = 12 - zab (h - g) := by
  have e : tn h g = zab (h - g) := by unfold tn zab; split <;> split <;> omega
  unfold sp
  rw [e, if_neg c]
theorem lt_ref {F : Nat → Int32} {a w b t one two st : Int} (hne : ¬ a = b) (h1 : gz F ((a * 6) + 0) = one) (h2 : gz F ((b * 6) + 0) = two) (hs : sp (hd F a w) (hd F b t) = st) : (max 1 (zab (one - two) + ((st * (min one two)) / 6))) = lt F a w b t := by
  unfold lt ap
  rw [if_neg hne]
  unfold lg0 nr fr
  rw [h1, h2, hs]
  by_cases h : two ≤ one
  · rw [if_pos h, if_pos h, Int.min_eq_right h, show zab (one - two) = one - two by unfold zab; rw [if_pos (by omega)]]
    split <;> omega
  · rw [if_neg h, if_neg h, Int.min_eq_left (by omega), show zab (one - two) = two - one by unfold zab; rw [if_neg (by omega)]; omega]
    split <;> omega
theorem icR_at {f : Nat → Int32} {j a b w : Int} (hj : 0 ≤ j) : icR (sh f 46) j a b w ↔ (((gz f (46 + (4 * j)) = a ∧ gz f ((46 + (4 * j)) + 1) = b) ∨ (gz f (46 + (4 * j)) = b ∧ gz f ((46 + (4 * j)) + 1) = a)) ∧ gz f ((46 + (4 * j)) + 2) ≤ w ∧ w ≤ gz f ((46 + (4 * j)) + 3)) := by
  unfold icR
  rw [sh46z f hj, sh46 f 1 hj (by omega), sh46 f 2 hj (by omega), sh46 f 3 hj (by omega)]

set_option maxHeartbeats 4000000 in
set_option maxRecDepth 100000 in
theorem m_rockRow (l : Launch) (D : va_G) (k : Nat → ClassId) (x : Int) : RD l yX12_rockRow cX12_rockRow 1 (some .int) 0 D k [.int (iZ x)] [] (iZ (10 + (6 * x))) := by
  refine MR (by decide) (Nat.le_of_ble_eq_true rfl) (fun p e s m below meth c ls hx hb hml hr hlocks hts hown hKK hP hl => ?_)
  have hK := hKK.1
  have hl : lv_has ls 1 [(0, .int (iZ x))] := hl
  refine lv_bipush (v := iZ 10) hx hb dX12_rockRow_0 bip_10 ?_
  refine lv_bipush (v := iZ 6) hx hb dX12_rockRow_2 bip_6 ?_
  refine lv_iload_n hx hb dX12_rockRow_4 rfl (lv_at hl 0 rfl) ?_
  refine lv_imul hx hb dX12_rockRow_5 ?_
  refine lv_topi (fun x_1 ex_1 => ?_)
  obtain rfl : x_1 = iZ (6 * x) := ex_1.trans (iZ_mul 6 x)
  refine lv_iadd hx hb dX12_rockRow_6 ?_
  refine lv_topi (fun x_2 ex_2 => ?_)
  obtain rfl : x_2 = iZ (10 + (6 * x)) := ex_2.trans (iZ_add 10 (6 * x))
  exact ERi hx hb hr hlocks rfl dX12_rockRow_7
set_option maxHeartbeats 4000000 in
set_option maxRecDepth 100000 in
theorem m_isWeek (l : Launch) (D : va_G) (k : Nat → ClassId) (x : Int) (h9x : -2147483648 ≤ x ∧ x < 2147483648) : RP l yX12_isWeek cX12_isWeek 1 (some .boolean) 0 D k [.int (iZ x)] [] (fun z => (z = 1 ∧ (0 ≤ x ∧ x ≤ 400)) ∨ (z = 0 ∧ ¬ (0 ≤ x ∧ x ≤ 400))) := by
  refine MRP (by decide) (Nat.le_of_ble_eq_true rfl) (fun p e s m below meth c ls hx hb hml hr hlocks hts hown hKK hP hl => ?_)
  have hK := hKK.1
  have hl : lv_has ls 1 [(0, .int (iZ x))] := hl
  refine lv_iload_n hx hb dX12_isWeek_0 rfl (lv_at hl 0 rfl) ?_
  refine lv_if_lt (tgt := 15) hx hb dX12_isWeek_1 rfl (fun c_1 => ?_) (fun c_1 => ?_)
  ·
    have c_1 := (zlt (x := iZ x) (y := iZ 0) rfl rfl ⟨by omega, by omega⟩ wn_0).mp c_1
    refine lv_iconst (v := iZ 0) hx hb dX12_isWeek_15 rfl ?_
    exact EPz hx hb hr hlocks (by omega) (by omega) dX12_isWeek_16
  ·
    have c_1 := mt (zlt (x := iZ x) (y := iZ 0) rfl rfl ⟨by omega, by omega⟩ wn_0).mpr c_1
    refine lv_iload_n hx hb dX12_isWeek_4 rfl (lv_at hl 0 rfl) ?_
    refine lv_sipush (v := iZ 400) hx hb dX12_isWeek_5 sip_400 ?_
    refine lv_icmp_gt (tgt := 15) hx hb dX12_isWeek_8 rfl (fun c_2 => ?_) (fun c_2 => ?_)
    ·
      have c_2 := (zlt (x := iZ 400) (y := iZ x) rfl rfl wn_400 ⟨by omega, by omega⟩).mp c_2
      refine lv_iconst (v := iZ 0) hx hb dX12_isWeek_15 rfl ?_
      exact EPz hx hb hr hlocks (by omega) (by omega) dX12_isWeek_16
    ·
      have c_2 := mt (zlt (x := iZ 400) (y := iZ x) rfl rfl wn_400 ⟨by omega, by omega⟩).mpr c_2
      refine lv_iconst (v := iZ 1) hx hb dX12_isWeek_11 rfl ?_
      refine lv_goto (tgt := 16) hx hb dX12_isWeek_12 rfl ?_
      exact EPz hx hb hr hlocks (by omega) (by omega) dX12_isWeek_16
set_option maxHeartbeats 4000000 in
set_option maxRecDepth 100000 in
theorem m_isAsked (l : Launch) (D : va_G) (k : Nat → ClassId) (x : Int) (h9x : -2147483648 ≤ x ∧ x < 2147483648) : RP l yX12_isAsked cX12_isAsked 1 (some .boolean) 0 D k [.int (iZ x)] [] (fun z => (z = 1 ∧ (0 ≤ x ∧ x ≤ 500)) ∨ (z = 0 ∧ ¬ (0 ≤ x ∧ x ≤ 500))) := by
  refine MRP (by decide) (Nat.le_of_ble_eq_true rfl) (fun p e s m below meth c ls hx hb hml hr hlocks hts hown hKK hP hl => ?_)
  have hK := hKK.1
  have hl : lv_has ls 1 [(0, .int (iZ x))] := hl
  refine lv_iload_n hx hb dX12_isAsked_0 rfl (lv_at hl 0 rfl) ?_
  refine lv_if_lt (tgt := 15) hx hb dX12_isAsked_1 rfl (fun c_1 => ?_) (fun c_1 => ?_)
  ·
    have c_1 := (zlt (x := iZ x) (y := iZ 0) rfl rfl ⟨by omega, by omega⟩ wn_0).mp c_1
    refine lv_iconst (v := iZ 0) hx hb dX12_isAsked_15 rfl ?_
    exact EPz hx hb hr hlocks (by omega) (by omega) dX12_isAsked_16
  ·
    have c_1 := mt (zlt (x := iZ x) (y := iZ 0) rfl rfl ⟨by omega, by omega⟩ wn_0).mpr c_1
    refine lv_iload_n hx hb dX12_isAsked_4 rfl (lv_at hl 0 rfl) ?_
    refine lv_sipush (v := iZ 500) hx hb dX12_isAsked_5 sip_500 ?_
    refine lv_icmp_gt (tgt := 15) hx hb dX12_isAsked_8 rfl (fun c_2 => ?_) (fun c_2 => ?_)
    ·
      have c_2 := (zlt (x := iZ 500) (y := iZ x) rfl rfl wn_500 ⟨by omega, by omega⟩).mp c_2
      refine lv_iconst (v := iZ 0) hx hb dX12_isAsked_15 rfl ?_
      exact EPz hx hb hr hlocks (by omega) (by omega) dX12_isAsked_16
    ·
      have c_2 := mt (zlt (x := iZ 500) (y := iZ x) rfl rfl wn_500 ⟨by omega, by omega⟩).mpr c_2
      refine lv_iconst (v := iZ 1) hx hb dX12_isAsked_11 rfl ?_
      refine lv_goto (tgt := 16) hx hb dX12_isAsked_12 rfl ?_
      exact EPz hx hb hr hlocks (by omega) (by omega) dX12_isAsked_16
set_option maxHeartbeats 4000000 in
set_option maxRecDepth 100000 in
theorem m_isRock (l : Launch) (D : va_G) (k : Nat → ClassId) (fs : List Value) (hm : Nat) (Ma : Nat) (Af : Nat → Int32) (x : Int) (f0 : fs[0]? = some (.ref Ma)) (hM : M0 Af) (h9x : -2147483648 ≤ x ∧ x < 2147483648) : RP l yX12_isRock cX12_isRock 2 (some .boolean) 0 D k [.ref hm, .int (iZ x)] [(hm, .inr (12, fs)), (Ma, .inl (k 1, 5340, .inl Af))] (fun z => (z = 1 ∧ (0 ≤ x ∧ x < gz Af 0)) ∨ (z = 0 ∧ ¬ (0 ≤ x ∧ x < gz Af 0))) := by
  refine MRP (by decide) (Nat.le_of_ble_eq_true rfl) (fun p e s m below meth c ls hx hb hml hr hlocks hts hown hKK hP hl => ?_)
  have hK := hKK.1
  have hl : lv_has ls 2 [(0, .ref hm), (1, .int (iZ x))] := hl
  obtain ⟨m0, m1, m3, m4, m5, mF, mO, mS⟩ := id hM
  refine lv_iload_n hx hb dX12_isRock_0 rfl (lv_at hl 1 rfl) ?_
  refine lv_if_lt (tgt := 18) hx hb dX12_isRock_1 rfl (fun c_1 => ?_) (fun c_1 => ?_)
  ·
    have c_1 := (zlt (x := iZ x) (y := iZ 0) rfl rfl ⟨by omega, by omega⟩ wn_0).mp c_1
    refine lv_iconst (v := iZ 0) hx hb dX12_isRock_18 rfl ?_
    exact EPz hx hb hr hlocks (by omega) (by omega) dX12_isRock_19
  ·
    have c_1 := mt (zlt (x := iZ x) (y := iZ 0) rfl rfl ⟨by omega, by omega⟩ wn_0).mpr c_1
    refine lv_iload_n hx hb dX12_isRock_4 rfl (lv_at hl 1 rfl) ?_
    refine lv_aload_n hx hb dX12_isRock_5 rfl (lv_at hl 0 rfl) ?_
    refine va_get (D := D) (ci := 12) (v := .ref Ma) (C := RX12) (T := TX12) (N := 36) hx hb hts iX12 hown hK hP 0 rfl rfl 0 (bl rfl) (hts _ qf_X12_7) (fun _ h => h) f0 dX12_isRock_6 ?_
    refine lv_iconst (v := iZ 0) hx hb dX12_isRock_9 rfl ?_
    refine va_iald hx hb hK hP 1 1 rfl rfl (zin (e := 0) (n := 5340) ⟨by omega, by omega⟩ (bl rfl)) dX12_isRock_10 ?_
    refine lv_topi (fun x_2 ex_2 => ?_)
    obtain rfl : x_2 = iZ (gz Af 0) := ex_2.trans (gz_eq ⟨by omega, by omega⟩)
    have h_3 := gz_rg Af 0
    refine lv_icmp_ge (tgt := 18) hx hb dX12_isRock_11 rfl (fun c_4 => ?_) (fun c_4 => ?_)
    ·
      have c_4 := (zle (x := iZ (gz Af 0)) (y := iZ x) rfl rfl (gz_rg Af 0) ⟨by omega, by omega⟩).mp c_4
      refine lv_iconst (v := iZ 0) hx hb dX12_isRock_18 rfl ?_
      exact EPz hx hb hr hlocks (by omega) (by omega) dX12_isRock_19
    ·
      have c_4 := mt (zle (x := iZ (gz Af 0)) (y := iZ x) rfl rfl (gz_rg Af 0) ⟨by omega, by omega⟩).mpr c_4
      refine lv_iconst (v := iZ 1) hx hb dX12_isRock_14 rfl ?_
      refine lv_goto (tgt := 19) hx hb dX12_isRock_15 rfl ?_
      exact EPz hx hb hr hlocks (by omega) (by omega) dX12_isRock_19
set_option maxHeartbeats 4000000 in
set_option maxRecDepth 100000 in
theorem m_areTwo (l : Launch) (D : va_G) (k : Nat → ClassId) (fs : List Value) (hm : Nat) (Ma : Nat) (Af : Nat → Int32) (x : Int) (y : Int) (f0 : fs[0]? = some (.ref Ma)) (hM : M0 Af) (h9x : -2147483648 ≤ x ∧ x < 2147483648) (h9y : -2147483648 ≤ y ∧ y < 2147483648) : RP l yX12_areTwo cX12_areTwo 3 (some .boolean) 1 D k [.ref hm, .int (iZ x), .int (iZ y)] [(hm, .inr (12, fs)), (Ma, .inl (k 1, 5340, .inl Af))] (fun z => (z = 1 ∧ ((0 ≤ x ∧ x < gz Af 0) ∧ (0 ≤ y ∧ y < gz Af 0) ∧ ¬ x = y)) ∨ (z = 0 ∧ ¬ ((0 ≤ x ∧ x < gz Af 0) ∧ (0 ≤ y ∧ y < gz Af 0) ∧ ¬ x = y))) := by
  refine MRP (by decide) (Nat.le_of_ble_eq_true rfl) (fun p e s m below meth c ls hx hb hml hr hlocks hts hown hKK hP hl => ?_)
  have hK := hKK.1
  have hl : lv_has ls 3 [(0, .ref hm), (1, .int (iZ x)), (2, .int (iZ y))] := hl
  obtain ⟨m0, m1, m3, m4, m5, mF, mO, mS⟩ := id hM
  refine lv_aload_n hx hb dX12_areTwo_0 rfl (lv_at hl 0 rfl) ?_
  refine lv_iload_n hx hb dX12_areTwo_1 rfl (lv_at hl 1 rfl) ?_
  refine CPV (As := [.int (iZ x)]) (rest := []) hx hb hml hown hts hKK hP (m_isRock l D k fs hm Ma Af x f0 hM ⟨by omega, by omega⟩) ci_X12_isRock qm_X12_243 ⟨Nat.le_of_ble_eq_true rfl, Nat.le_of_ble_eq_true rfl⟩ ⟨Nat.le_of_ble_eq_true rfl, Nat.le_of_ble_eq_true rfl⟩ 0 rfl rfl rfl hl.1 rfl (Nat.le_of_ble_eq_true rfl) dX12_areTwo_2 (fun z_1 hz_1 => ?_)
  rcases hz_1 with ⟨qz_1, hz_1⟩ | ⟨qz_1, hz_1⟩
  ·
    subst qz_1
    refine lv_if_eq (tgt := 25) hx hb dX12_areTwo_5 rfl (fun c => absurd c (by decide)) (fun _ => ?_)
    refine lv_aload_n hx hb dX12_areTwo_8 rfl (lv_at hl 0 rfl) ?_
    refine lv_iload_n hx hb dX12_areTwo_9 rfl (lv_at hl 2 rfl) ?_
    refine CPV (As := [.int (iZ y)]) (rest := []) hx hb hml hown hts hKK hP (m_isRock l D k fs hm Ma Af y f0 hM ⟨by omega, by omega⟩) ci_X12_isRock qm_X12_243 ⟨Nat.le_of_ble_eq_true rfl, Nat.le_of_ble_eq_true rfl⟩ ⟨Nat.le_of_ble_eq_true rfl, Nat.le_of_ble_eq_true rfl⟩ 0 rfl rfl rfl hl.1 rfl (Nat.le_of_ble_eq_true rfl) dX12_areTwo_10 (fun z_3 hz_3 => ?_)
    rcases hz_3 with ⟨qz_3, hz_3⟩ | ⟨qz_3, hz_3⟩
    ·
      subst qz_3
      refine lv_if_eq (tgt := 25) hx hb dX12_areTwo_13 rfl (fun c => absurd c (by decide)) (fun _ => ?_)
      refine lv_iload_n hx hb dX12_areTwo_16 rfl (lv_at hl 1 rfl) ?_
      refine lv_iload_n hx hb dX12_areTwo_17 rfl (lv_at hl 2 rfl) ?_
      refine lv_icmp_eq (tgt := 25) hx hb dX12_areTwo_18 rfl (fun c_5 => ?_) (fun c_5 => ?_)
      ·
        have c_5 := (zeq (x := iZ x) (y := iZ y) rfl rfl ⟨by omega, by omega⟩ ⟨by omega, by omega⟩).mp c_5
        refine lv_iconst (v := iZ 0) hx hb dX12_areTwo_25 rfl ?_
        exact EPz hx hb hr hlocks (by omega) (by omega) dX12_areTwo_26
      ·
        have c_5 := mt (zeq (x := iZ x) (y := iZ y) rfl rfl ⟨by omega, by omega⟩ ⟨by omega, by omega⟩).mpr c_5
        refine lv_iconst (v := iZ 1) hx hb dX12_areTwo_21 rfl ?_
        refine lv_goto (tgt := 26) hx hb dX12_areTwo_22 rfl ?_
        exact EPz hx hb hr hlocks (by omega) (by omega) dX12_areTwo_26
    ·
      subst qz_3
      refine lv_if_eq (tgt := 25) hx hb dX12_areTwo_13 rfl (fun _ => ?_) (fun c => absurd (by decide) c)
      refine lv_iconst (v := iZ 0) hx hb dX12_areTwo_25 rfl ?_
      exact EPz hx hb hr hlocks (by omega) (by omega) dX12_areTwo_26
  ·
    subst qz_1
    refine lv_if_eq (tgt := 25) hx hb dX12_areTwo_5 rfl (fun _ => ?_) (fun c => absurd (by decide) c)
    refine lv_iconst (v := iZ 0) hx hb dX12_areTwo_25 rfl ?_
    exact EPz hx hb hr hlocks (by omega) (by omega) dX12_areTwo_26
set_option maxHeartbeats 4000000 in
set_option maxRecDepth 100000 in
theorem m_isNews (l : Launch) (D : va_G) (k : Nat → ClassId) (fs : List Value) (hm : Nat) (Ma : Nat) (Af : Nat → Int32) (x : Int) (w : Int) (f0 : fs[0]? = some (.ref Ma)) (hM : M0 Af) (h9x : -2147483648 ≤ x ∧ x < 2147483648) (h9w : -2147483648 ≤ w ∧ w < 2147483648) : RP l yX12_isNews cX12_isNews 3 (some .boolean) 1 D k [.ref hm, .int (iZ x), .int (iZ w)] [(hm, .inr (12, fs)), (Ma, .inl (k 1, 5340, .inl Af))] (fun z => (z = 1 ∧ ((0 ≤ x ∧ x < gz Af 0) ∧ (0 ≤ w ∧ w ≤ 400))) ∨ (z = 0 ∧ ¬ ((0 ≤ x ∧ x < gz Af 0) ∧ (0 ≤ w ∧ w ≤ 400)))) := by
  refine MRP (by decide) (Nat.le_of_ble_eq_true rfl) (fun p e s m below meth c ls hx hb hml hr hlocks hts hown hKK hP hl => ?_)
  have hK := hKK.1
  have hl : lv_has ls 3 [(0, .ref hm), (1, .int (iZ x)), (2, .int (iZ w))] := hl
  obtain ⟨m0, m1, m3, m4, m5, mF, mO, mS⟩ := id hM
  refine lv_aload_n hx hb dX12_isNews_0 rfl (lv_at hl 0 rfl) ?_
  refine lv_iload_n hx hb dX12_isNews_1 rfl (lv_at hl 1 rfl) ?_
  refine CPV (As := [.int (iZ x)]) (rest := []) hx hb hml hown hts hKK hP (m_isRock l D k fs hm Ma Af x f0 hM ⟨by omega, by omega⟩) ci_X12_isRock qm_X12_243 ⟨Nat.le_of_ble_eq_true rfl, Nat.le_of_ble_eq_true rfl⟩ ⟨Nat.le_of_ble_eq_true rfl, Nat.le_of_ble_eq_true rfl⟩ 0 rfl rfl rfl hl.1 rfl (Nat.le_of_ble_eq_true rfl) dX12_isNews_2 (fun z_1 hz_1 => ?_)
  rcases hz_1 with ⟨qz_1, hz_1⟩ | ⟨qz_1, hz_1⟩
  ·
    subst qz_1
    refine lv_if_eq (tgt := 19) hx hb dX12_isNews_5 rfl (fun c => absurd c (by decide)) (fun _ => ?_)
    refine lv_iload_n hx hb dX12_isNews_8 rfl (lv_at hl 2 rfl) ?_
    refine CPS (As := [.int (iZ w)]) (rest := []) hx hb hml hown hts hKK (hP.sub (ws' := []) [] rfl) (m_isWeek l D k w ⟨by omega, by omega⟩) ci_X12_isWeek qm_X12_268 ⟨Nat.le_of_ble_eq_true rfl, Nat.le_of_ble_eq_true rfl⟩ ⟨Nat.le_of_ble_eq_true rfl, Nat.le_of_ble_eq_true rfl⟩ rfl hl.1 rfl (Nat.le_of_ble_eq_true rfl) dX12_isNews_9 (fun z_3 hz_3 => ?_)
    rcases hz_3 with ⟨qz_3, hz_3⟩ | ⟨qz_3, hz_3⟩
    ·
      subst qz_3
      refine lv_if_eq (tgt := 19) hx hb dX12_isNews_12 rfl (fun c => absurd c (by decide)) (fun _ => ?_)
      refine lv_iconst (v := iZ 1) hx hb dX12_isNews_15 rfl ?_
      refine lv_goto (tgt := 20) hx hb dX12_isNews_16 rfl ?_
      exact EPz hx hb hr hlocks (by omega) (by omega) dX12_isNews_20
    ·
      subst qz_3
      refine lv_if_eq (tgt := 19) hx hb dX12_isNews_12 rfl (fun _ => ?_) (fun c => absurd (by decide) c)
      refine lv_iconst (v := iZ 0) hx hb dX12_isNews_19 rfl ?_
      exact EPz hx hb hr hlocks (by omega) (by omega) dX12_isNews_20
  ·
    subst qz_1
    refine lv_if_eq (tgt := 19) hx hb dX12_isNews_5 rfl (fun _ => ?_) (fun c => absurd (by decide) c)
    refine lv_iconst (v := iZ 0) hx hb dX12_isNews_19 rfl ?_
    exact EPz hx hb hr hlocks (by omega) (by omega) dX12_isNews_20
set_option maxHeartbeats 4000000 in
set_option maxRecDepth 100000 in
theorem m_dir (l : Launch) (D : va_G) (k : Nat → ClassId) (fs : List Value) (hm : Nat) (Ma : Nat) (Af : Nat → Int32) (x : Int) (w : Int) (f0 : fs[0]? = some (.ref Ma)) (hM : M0 Af) (h9x : 0 ≤ x ∧ x < gz Af 0) (h9w : 0 ≤ w ∧ w ≤ 1000) : RD l yX12_directionOf cX12_directionOf 3 (some .int) 1 D k [.ref hm, .int (iZ x), .int (iZ w)] [(hm, .inr (12, fs)), (Ma, .inl (k 1, 5340, .inl Af))] (iZ (hd (sh Af 10) x w)) := by
  refine MR (by decide) (Nat.le_of_ble_eq_true rfl) (fun p e s m below meth c ls hx hb hml hr hlocks hts hown hKK hP hl => ?_)
  have hK := hKK.1
  have hl : lv_has ls 3 [(0, .ref hm), (1, .int (iZ x)), (2, .int (iZ w))] := hl
  obtain ⟨m0, m1, m3, m4, m5, mF, mO, mS⟩ := id hM
  have hfx := hM.fx x h9x.1 h9x.2
  refine lv_aload_n hx hb dX12_directionOf_0 rfl (lv_at hl 0 rfl) ?_
  refine va_get (D := D) (ci := 12) (v := .ref Ma) (C := RX12) (T := TX12) (N := 36) hx hb hts iX12 hown hK hP 0 rfl rfl 0 (bl rfl) (hts _ qf_X12_7) (fun _ h => h) f0 dX12_directionOf_1 ?_
  refine lv_iload_n hx hb dX12_directionOf_4 rfl (lv_at hl 1 rfl) ?_
  refine CRS (As := [.int (iZ x)]) (rest := [.ref Ma]) hx hb hml hown hts hKK (hP.sub (ws' := []) [] rfl) (m_rockRow l D k x) ci_X12_rockRow qm_X12_246 ⟨Nat.le_of_ble_eq_true rfl, Nat.le_of_ble_eq_true rfl⟩ ⟨Nat.le_of_ble_eq_true rfl, Nat.le_of_ble_eq_true rfl⟩ rfl hl.1 rfl (Nat.le_of_ble_eq_true rfl) dX12_directionOf_5 ?_
  refine lv_iconst (v := iZ 2) hx hb dX12_directionOf_8 rfl ?_
  refine lv_iadd hx hb dX12_directionOf_9 ?_
  refine lv_topi (fun x_1 ex_1 => ?_)
  obtain rfl : x_1 = iZ ((10 + (6 * x)) + 2) := ex_1.trans (iZ_add (10 + (6 * x)) 2)
  refine va_iald hx hb hK hP 1 1 rfl rfl (zin (e := ((10 + (6 * x)) + 2)) (n := 5340) ⟨by omega, by omega⟩ (bl rfl)) dX12_directionOf_10 ?_
  refine lv_topi (fun x_2 ex_2 => ?_)
  obtain rfl : x_2 = iZ (gz Af ((10 + (6 * x)) + 2)) := ex_2.trans (gz_eq ⟨by omega, by omega⟩)
  have h_3 := gz_rg Af ((10 + (6 * x)) + 2)
  refine lv_bipush (v := iZ 12) hx hb dX12_directionOf_11 bip_12 ?_
  refine lv_iload_n hx hb dX12_directionOf_13 rfl (lv_at hl 2 rfl) ?_
  refine lv_imul hx hb dX12_directionOf_14 ?_
  refine lv_topi (fun x_4 ex_4 => ?_)
  obtain rfl : x_4 = iZ (12 * w) := ex_4.trans (iZ_mul 12 w)
  refine lv_aload_n hx hb dX12_directionOf_15 rfl (lv_at hl 0 rfl) ?_
  refine va_get (D := D) (ci := 12) (v := .ref Ma) (C := RX12) (T := TX12) (N := 36) hx hb hts iX12 hown hK hP 0 rfl rfl 0 (bl rfl) (hts _ qf_X12_7) (fun _ h => h) f0 dX12_directionOf_16 ?_
  refine lv_iload_n hx hb dX12_directionOf_19 rfl (lv_at hl 1 rfl) ?_
  refine CRS (As := [.int (iZ x)]) (rest := [.ref Ma, .int (iZ (12 * w)), .int (iZ (gz Af ((10 + (6 * x)) + 2)))]) hx hb hml hown hts hKK (hP.sub (ws' := []) [] rfl) (m_rockRow l D k x) ci_X12_rockRow qm_X12_246 ⟨Nat.le_of_ble_eq_true rfl, Nat.le_of_ble_eq_true rfl⟩ ⟨Nat.le_of_ble_eq_true rfl, Nat.le_of_ble_eq_true rfl⟩ rfl hl.1 rfl (Nat.le_of_ble_eq_true rfl) dX12_directionOf_20 ?_
  refine lv_iconst (v := iZ 1) hx hb dX12_directionOf_23 rfl ?_
  refine lv_iadd hx hb dX12_directionOf_24 ?_
  refine lv_topi (fun x_5 ex_5 => ?_)
  obtain rfl : x_5 = iZ ((10 + (6 * x)) + 1) := ex_5.trans (iZ_add (10 + (6 * x)) 1)
  refine va_iald hx hb hK hP 1 1 rfl rfl (zin (e := ((10 + (6 * x)) + 1)) (n := 5340) ⟨by omega, by omega⟩ (bl rfl)) dX12_directionOf_25 ?_
  refine lv_topi (fun x_6 ex_6 => ?_)
  obtain rfl : x_6 = iZ (gz Af ((10 + (6 * x)) + 1)) := ex_6.trans (gz_eq ⟨by omega, by omega⟩)
  have h_7 := gz_rg Af ((10 + (6 * x)) + 1)
  refine lv_idiv hx hb dX12_directionOf_26 (by rw [zne rfl ⟨by omega, by omega⟩]; omega) ?_
  have hd_26 := zdiv_b (a := (12 * w)) (b := (gz Af ((10 + (6 * x)) + 1))) (by omega) (by omega)
  refine lv_topi (fun x_8 ex_8 => ?_)
  obtain rfl : x_8 = iZ ((12 * w) / (gz Af ((10 + (6 * x)) + 1))) := ex_8.trans (iZ_div (a := (12 * w)) (b := (gz Af ((10 + (6 * x)) + 1))) (by omega) (by omega) (by omega) (by omega))
  refine lv_iadd hx hb dX12_directionOf_27 ?_
  refine lv_topi (fun x_9 ex_9 => ?_)
  obtain rfl : x_9 = iZ ((gz Af ((10 + (6 * x)) + 2)) + ((12 * w) / (gz Af ((10 + (6 * x)) + 1)))) := ex_9.trans (iZ_add (gz Af ((10 + (6 * x)) + 2)) ((12 * w) / (gz Af ((10 + (6 * x)) + 1))))
  refine lv_bipush (v := iZ 12) hx hb dX12_directionOf_28 bip_12 ?_
  refine lv_irem hx hb dX12_directionOf_30 (by rw [zne rfl ⟨by omega, by omega⟩]; omega) ?_
  refine lv_topi (fun x_10 ex_10 => ?_)
  obtain rfl : x_10 = iZ (((gz Af ((10 + (6 * x)) + 2)) + ((12 * w) / (gz Af ((10 + (6 * x)) + 1)))) % 12) := ex_10.trans (iZ_rem (a := ((gz Af ((10 + (6 * x)) + 2)) + ((12 * w) / (gz Af ((10 + (6 * x)) + 1))))) (b := 12) (by omega) (by omega) (by omega) (by omega))
  exact ERi hx hb hr hlocks (congrArg iZ (hd_at Af w h9x.1)) dX12_directionOf_31
set_option maxHeartbeats 4000000 in
set_option maxRecDepth 100000 in
theorem m_light (l : Launch) (D : va_G) (k : Nat → ClassId) (fs : List Value) (hm : Nat) (Ma : Nat) (Af : Nat → Int32) (x : Int) (w : Int) (y : Int) (t : Int) (f0 : fs[0]? = some (.ref Ma)) (hM : M0 Af) (h9x : 0 ≤ x ∧ x < gz Af 0) (h9w : 0 ≤ w ∧ w ≤ 1000) (h9y : 0 ≤ y ∧ y < gz Af 0) (h9t : 0 ≤ t ∧ t ≤ 1000) : RD l yX12_lightOf cX12_lightOf 8 (some .int) 2 D k [.ref hm, .int (iZ x), .int (iZ w), .int (iZ y), .int (iZ t)] [(hm, .inr (12, fs)), (Ma, .inl (k 1, 5340, .inl Af))] (iZ (lt (sh Af 10) x w y t)) := by
  refine MR (by decide) (Nat.le_of_ble_eq_true rfl) (fun p e s m below meth c ls hx hb hml hr hlocks hts hown hKK hP hl => ?_)
  have hK := hKK.1
  have hl : lv_has ls 8 [(0, .ref hm), (1, .int (iZ x)), (2, .int (iZ w)), (3, .int (iZ y)), (4, .int (iZ t))] := hl
  obtain ⟨m0, m1, m3, m4, m5, mF, mO, mS⟩ := id hM
  have hfx := hM.fx x h9x.1 h9x.2
  have hfy := hM.fx y h9y.1 h9y.2
  refine lv_iload_n hx hb dX12_lightOf_0 rfl (lv_at hl 1 rfl) ?_
  refine lv_iload_n hx hb dX12_lightOf_1 rfl (lv_at hl 3 rfl) ?_
  refine lv_icmp_ne (tgt := 7) hx hb dX12_lightOf_2 rfl (fun c_1 => ?_) (fun c_1 => ?_)
  ·
    have c_1 := mt (zeq (x := iZ x) (y := iZ y) rfl rfl ⟨by omega, by omega⟩ ⟨by omega, by omega⟩).mpr c_1
    refine lv_aload_n hx hb dX12_lightOf_7 rfl (lv_at hl 0 rfl) ?_
    refine va_get (D := D) (ci := 12) (v := .ref Ma) (C := RX12) (T := TX12) (N := 36) hx hb hts iX12 hown hK hP 0 rfl rfl 0 (bl rfl) (hts _ qf_X12_7) (fun _ h => h) f0 dX12_lightOf_8 ?_
    refine lv_iload_n hx hb dX12_lightOf_11 rfl (lv_at hl 1 rfl) ?_
    refine CRS (As := [.int (iZ x)]) (rest := [.ref Ma]) hx hb hml hown hts hKK (hP.sub (ws' := []) [] rfl) (m_rockRow l D k x) ci_X12_rockRow qm_X12_246 ⟨Nat.le_of_ble_eq_true rfl, Nat.le_of_ble_eq_true rfl⟩ ⟨Nat.le_of_ble_eq_true rfl, Nat.le_of_ble_eq_true rfl⟩ rfl hl.1 rfl (Nat.le_of_ble_eq_true rfl) dX12_lightOf_12 ?_
    refine va_iald hx hb hK hP 1 1 rfl rfl (zin (e := (10 + (6 * x))) (n := 5340) ⟨by omega, by omega⟩ (bl rfl)) dX12_lightOf_15 ?_
    refine lv_topi (fun x_2 ex_2 => ?_)
    obtain rfl : x_2 = iZ (gz Af (10 + (6 * x))) := ex_2.trans (gz_eq ⟨by omega, by omega⟩)
    have h_3 := gz_rg Af (10 + (6 * x))
    refine lv_istore (lv' := [(5, .int (iZ (gz Af (10 + (6 * x))))), (0, .ref hm), (1, .int (iZ x)), (2, .int (iZ w)), (3, .int (iZ y)), (4, .int (iZ t))]) hx hb dX12_lightOf_16 hl (bl rfl) rfl (fun ls hl => ?_)
    refine lv_aload_n hx hb dX12_lightOf_18 rfl (lv_at hl 1 rfl) ?_
    refine va_get (D := D) (ci := 12) (v := .ref Ma) (C := RX12) (T := TX12) (N := 36) hx hb hts iX12 hown hK hP 0 rfl rfl 0 (bl rfl) (hts _ qf_X12_7) (fun _ h => h) f0 dX12_lightOf_19 ?_
    refine lv_iload_n hx hb dX12_lightOf_22 rfl (lv_at hl 4 rfl) ?_
    refine CRS (As := [.int (iZ y)]) (rest := [.ref Ma]) hx hb hml hown hts hKK (hP.sub (ws' := []) [] rfl) (m_rockRow l D k y) ci_X12_rockRow qm_X12_246 ⟨Nat.le_of_ble_eq_true rfl, Nat.le_of_ble_eq_true rfl⟩ ⟨Nat.le_of_ble_eq_true rfl, Nat.le_of_ble_eq_true rfl⟩ rfl hl.1 rfl (Nat.le_of_ble_eq_true rfl) dX12_lightOf_23 ?_
    refine va_iald hx hb hK hP 1 1 rfl rfl (zin (e := (10 + (6 * y))) (n := 5340) ⟨by omega, by omega⟩ (bl rfl)) dX12_lightOf_26 ?_
    refine lv_topi (fun x_4 ex_4 => ?_)
    obtain rfl : x_4 = iZ (gz Af (10 + (6 * y))) := ex_4.trans (gz_eq ⟨by omega, by omega⟩)
    have h_5 := gz_rg Af (10 + (6 * y))
    refine lv_istore (lv' := [(6, .int (iZ (gz Af (10 + (6 * y))))), (5, .int (iZ (gz Af (10 + (6 * x))))), (0, .ref hm), (1, .int (iZ x)), (2, .int (iZ w)), (3, .int (iZ y)), (4, .int (iZ t))]) hx hb dX12_lightOf_27 hl (bl rfl) rfl (fun ls hl => ?_)
    refine lv_aload_n hx hb dX12_lightOf_29 rfl (lv_at hl 2 rfl) ?_
    refine lv_iload_n hx hb dX12_lightOf_30 rfl (lv_at hl 3 rfl) ?_
    refine lv_iload_n hx hb dX12_lightOf_31 rfl (lv_at hl 4 rfl) ?_
    refine CRV (As := [.int (iZ x), .int (iZ w)]) (rest := []) hx hb hml hown hts hKK hP (m_dir l D k fs hm Ma Af x w f0 hM ⟨by omega, by omega⟩ ⟨by omega, by omega⟩) ci_X12_directionOf qm_X12_249 ⟨Nat.le_of_ble_eq_true rfl, Nat.le_of_ble_eq_true rfl⟩ ⟨Nat.le_of_ble_eq_true rfl, Nat.le_of_ble_eq_true rfl⟩ 0 rfl rfl rfl hl.1 rfl (Nat.le_of_ble_eq_true rfl) dX12_lightOf_32 ?_
    have hh_h_6 := hd_rg (sh Af 10) x w
    refine lv_aload_n hx hb dX12_lightOf_35 rfl (lv_at hl 2 rfl) ?_
    refine lv_iload_n hx hb dX12_lightOf_36 rfl (lv_at hl 5 rfl) ?_
    refine lv_iload hx hb dX12_lightOf_37 (lv_at hl 6 rfl) ?_
    refine CRV (As := [.int (iZ y), .int (iZ t)]) (rest := [.int (iZ (hd (sh Af 10) x w))]) hx hb hml hown hts hKK hP (m_dir l D k fs hm Ma Af y t f0 hM ⟨by omega, by omega⟩ ⟨by omega, by omega⟩) ci_X12_directionOf qm_X12_249 ⟨Nat.le_of_ble_eq_true rfl, Nat.le_of_ble_eq_true rfl⟩ ⟨Nat.le_of_ble_eq_true rfl, Nat.le_of_ble_eq_true rfl⟩ 0 rfl rfl rfl hl.1 rfl (Nat.le_of_ble_eq_true rfl) dX12_lightOf_39 ?_
    have hh_h_7 := hd_rg (sh Af 10) y t
    refine lv_isub hx hb dX12_lightOf_42 ?_
    refine lv_topi (fun x_8 ex_8 => ?_)
    obtain rfl : x_8 = iZ ((hd (sh Af 10) x w) - (hd (sh Af 10) y t)) := ex_8.trans (iZ_sub (hd (sh Af 10) x w) (hd (sh Af 10) y t))
    refine va_mabs (rest := []) hx hb (by rw [hml]; exact hl.1.symm) (own := RX12) hown (hts _ qm_X12_252) (hts _ qt_yJ9_abs_0f7a4) (hts _ qz_J9) (hts _ qc_J9_abs_0f7a4) (Nat.le_of_ble_eq_true rfl) (Nat.le_of_ble_eq_true rfl) (Nat.le_of_ble_eq_true rfl) (Nat.le_of_ble_eq_true rfl) dX12_lightOf_43 ?_
    refine lv_topi (fun x_9 ex_9 => ?_)
    obtain rfl : x_9 = iZ (zab ((hd (sh Af 10) x w) - (hd (sh Af 10) y t))) := ex_9.trans (zabs ⟨by omega, by omega⟩)
    have hab_43 := zab_c ((hd (sh Af 10) x w) - (hd (sh Af 10) y t))
    refine lv_istore (lv' := [(7, .int (iZ (zab ((hd (sh Af 10) x w) - (hd (sh Af 10) y t))))), (6, .int (iZ (gz Af (10 + (6 * y))))), (5, .int (iZ (gz Af (10 + (6 * x))))), (0, .ref hm), (1, .int (iZ x)), (2, .int (iZ w)), (3, .int (iZ y)), (4, .int (iZ t))]) hx hb dX12_lightOf_46 hl (bl rfl) rfl (fun ls hl => ?_)
    refine lv_iload hx hb dX12_lightOf_48 (lv_at hl 0 rfl) ?_
    refine lv_bipush (v := iZ 6) hx hb dX12_lightOf_50 bip_6 ?_
    refine lv_icmp_le (tgt := 62) hx hb dX12_lightOf_52 rfl (fun c_10 => ?_) (fun c_10 => ?_)
    ·
      have c_10 := (zle (x := iZ (zab ((hd (sh Af 10) x w) - (hd (sh Af 10) y t)))) (y := iZ 6) rfl rfl ⟨by omega, by omega⟩ wn_6).mp c_10
      refine lv_iconst (v := iZ 1) hx hb dX12_lightOf_62 rfl ?_
      refine lv_iload hx hb dX12_lightOf_63 (lv_at hl 2 rfl) ?_
      refine lv_iload hx hb dX12_lightOf_65 (lv_at hl 1 rfl) ?_
      refine lv_isub hx hb dX12_lightOf_67 ?_
      refine lv_topi (fun x_11 ex_11 => ?_)
      obtain rfl : x_11 = iZ ((gz Af (10 + (6 * x))) - (gz Af (10 + (6 * y)))) := ex_11.trans (iZ_sub (gz Af (10 + (6 * x))) (gz Af (10 + (6 * y))))
      refine va_mabs (rest := [.int (iZ 1)]) hx hb (by rw [hml]; exact hl.1.symm) (own := RX12) hown (hts _ qm_X12_252) (hts _ qt_yJ9_abs_0f7a4) (hts _ qz_J9) (hts _ qc_J9_abs_0f7a4) (Nat.le_of_ble_eq_true rfl) (Nat.le_of_ble_eq_true rfl) (Nat.le_of_ble_eq_true rfl) (Nat.le_of_ble_eq_true rfl) dX12_lightOf_68 ?_
      refine lv_topi (fun x_12 ex_12 => ?_)
      obtain rfl : x_12 = iZ (zab ((gz Af (10 + (6 * x))) - (gz Af (10 + (6 * y))))) := ex_12.trans (zabs ⟨by omega, by omega⟩)
      have hab_68 := zab_c ((gz Af (10 + (6 * x))) - (gz Af (10 + (6 * y))))
      refine lv_iload hx hb dX12_lightOf_71 (lv_at hl 0 rfl) ?_
      refine lv_iload hx hb dX12_lightOf_73 (lv_at hl 2 rfl) ?_
      refine lv_iload hx hb dX12_lightOf_75 (lv_at hl 1 rfl) ?_
      refine va_mmin (rest := [.int (iZ (zab ((hd (sh Af 10) x w) - (hd (sh Af 10) y t)))), .int (iZ (zab ((gz Af (10 + (6 * x))) - (gz Af (10 + (6 * y)))))), .int (iZ 1)]) hx hb (by rw [hml]; exact hl.1.symm) (own := RX12) hown (hts _ qm_X12_137) (hts _ qt_yJ9_min_7cf53) (hts _ qz_J9) (hts _ qc_J9_min_7cf53) (Nat.le_of_ble_eq_true rfl) (Nat.le_of_ble_eq_true rfl) (Nat.le_of_ble_eq_true rfl) (Nat.le_of_ble_eq_true rfl) dX12_lightOf_77 ?_
      refine lv_topi (fun x_13 ex_13 => ?_)
      obtain rfl : x_13 = iZ (min (gz Af (10 + (6 * x))) (gz Af (10 + (6 * y)))) := ex_13.trans (zmin ⟨by omega, by omega⟩ ⟨by omega, by omega⟩)
      have hm_80 := mul_b (a := (zab ((hd (sh Af 10) x w) - (hd (sh Af 10) y t)))) (b := (min (gz Af (10 + (6 * x))) (gz Af (10 + (6 * y))))) (A := 6) (B := 20) (by omega) (by omega) (by omega) (by omega)
      refine lv_imul hx hb dX12_lightOf_80 ?_
      refine lv_topi (fun x_14 ex_14 => ?_)
      obtain rfl : x_14 = iZ ((zab ((hd (sh Af 10) x w) - (hd (sh Af 10) y t))) * (min (gz Af (10 + (6 * x))) (gz Af (10 + (6 * y))))) := ex_14.trans (iZ_mul (zab ((hd (sh Af 10) x w) - (hd (sh Af 10) y t))) (min (gz Af (10 + (6 * x))) (gz Af (10 + (6 * y)))))
      refine lv_bipush (v := iZ 6) hx hb dX12_lightOf_81 bip_6 ?_
      refine lv_idiv hx hb dX12_lightOf_83 (by rw [zne rfl ⟨by omega, by omega⟩]; omega) ?_
      have hd_83 := zdiv_b (a := ((zab ((hd (sh Af 10) x w) - (hd (sh Af 10) y t))) * (min (gz Af (10 + (6 * x))) (gz Af (10 + (6 * y)))))) (b := 6) (by omega) (by omega)
      refine lv_topi (fun x_15 ex_15 => ?_)
      obtain rfl : x_15 = iZ (((zab ((hd (sh Af 10) x w) - (hd (sh Af 10) y t))) * (min (gz Af (10 + (6 * x))) (gz Af (10 + (6 * y))))) / 6) := ex_15.trans (iZ_div (a := ((zab ((hd (sh Af 10) x w) - (hd (sh Af 10) y t))) * (min (gz Af (10 + (6 * x))) (gz Af (10 + (6 * y)))))) (b := 6) (by omega) (by omega) (by omega) (by omega))
      refine lv_iadd hx hb dX12_lightOf_84 ?_
      refine lv_topi (fun x_16 ex_16 => ?_)
      obtain rfl : x_16 = iZ ((zab ((gz Af (10 + (6 * x))) - (gz Af (10 + (6 * y))))) + (((zab ((hd (sh Af 10) x w) - (hd (sh Af 10) y t))) * (min (gz Af (10 + (6 * x))) (gz Af (10 + (6 * y))))) / 6)) := ex_16.trans (iZ_add (zab ((gz Af (10 + (6 * x))) - (gz Af (10 + (6 * y))))) (((zab ((hd (sh Af 10) x w) - (hd (sh Af 10) y t))) * (min (gz Af (10 + (6 * x))) (gz Af (10 + (6 * y))))) / 6))
      refine va_mmax (rest := []) hx hb (by rw [hml]; exact hl.1.symm) (own := RX12) hown (hts _ qm_X12_255) (hts _ qt_yJ9_max_7cf53) (hts _ qz_J9) (hts _ qc_J9_max_7cf53) (Nat.le_of_ble_eq_true rfl) (Nat.le_of_ble_eq_true rfl) (Nat.le_of_ble_eq_true rfl) (Nat.le_of_ble_eq_true rfl) dX12_lightOf_85 ?_
      refine lv_topi (fun x_17 ex_17 => ?_)
      obtain rfl : x_17 = iZ (max 1 ((zab ((gz Af (10 + (6 * x))) - (gz Af (10 + (6 * y))))) + (((zab ((hd (sh Af 10) x w) - (hd (sh Af 10) y t))) * (min (gz Af (10 + (6 * x))) (gz Af (10 + (6 * y))))) / 6))) := ex_17.trans (zmax ⟨by omega, by omega⟩ ⟨by omega, by omega⟩)
      exact ERi hx hb hr hlocks (congrArg iZ (lt_ref (F := sh Af 10) (a := x) (w := w) (b := y) (t := t) (by omega) (sh10z Af h9x.1) (sh10z Af h9y.1) (sp_a (by omega)))) dX12_lightOf_88
    ·
      have c_10 := mt (zle (x := iZ (zab ((hd (sh Af 10) x w) - (hd (sh Af 10) y t)))) (y := iZ 6) rfl rfl ⟨by omega, by omega⟩ wn_6).mpr c_10
      refine lv_bipush (v := iZ 12) hx hb dX12_lightOf_55 bip_12 ?_
      refine lv_iload hx hb dX12_lightOf_57 (lv_at hl 0 rfl) ?_
      refine lv_isub hx hb dX12_lightOf_59 ?_
      refine lv_topi (fun x_18 ex_18 => ?_)
      obtain rfl : x_18 = iZ (12 - (zab ((hd (sh Af 10) x w) - (hd (sh Af 10) y t)))) := ex_18.trans (iZ_sub 12 (zab ((hd (sh Af 10) x w) - (hd (sh Af 10) y t))))
      refine lv_istore (lv' := [(7, .int (iZ (12 - (zab ((hd (sh Af 10) x w) - (hd (sh Af 10) y t)))))), (6, .int (iZ (gz Af (10 + (6 * y))))), (5, .int (iZ (gz Af (10 + (6 * x))))), (0, .ref hm), (1, .int (iZ x)), (2, .int (iZ w)), (3, .int (iZ y)), (4, .int (iZ t))]) hx hb dX12_lightOf_60 hl (bl rfl) rfl (fun ls hl => ?_)
      refine lv_iconst (v := iZ 1) hx hb dX12_lightOf_62 rfl ?_
      refine lv_iload hx hb dX12_lightOf_63 (lv_at hl 2 rfl) ?_
      refine lv_iload hx hb dX12_lightOf_65 (lv_at hl 1 rfl) ?_
      refine lv_isub hx hb dX12_lightOf_67 ?_
      refine lv_topi (fun x_19 ex_19 => ?_)
      obtain rfl : x_19 = iZ ((gz Af (10 + (6 * x))) - (gz Af (10 + (6 * y)))) := ex_19.trans (iZ_sub (gz Af (10 + (6 * x))) (gz Af (10 + (6 * y))))
      refine va_mabs (rest := [.int (iZ 1)]) hx hb (by rw [hml]; exact hl.1.symm) (own := RX12) hown (hts _ qm_X12_252) (hts _ qt_yJ9_abs_0f7a4) (hts _ qz_J9) (hts _ qc_J9_abs_0f7a4) (Nat.le_of_ble_eq_true rfl) (Nat.le_of_ble_eq_true rfl) (Nat.le_of_ble_eq_true rfl) (Nat.le_of_ble_eq_true rfl) dX12_lightOf_68 ?_
      refine lv_topi (fun x_20 ex_20 => ?_)
      obtain rfl : x_20 = iZ (zab ((gz Af (10 + (6 * x))) - (gz Af (10 + (6 * y))))) := ex_20.trans (zabs ⟨by omega, by omega⟩)
      have hab_68 := zab_c ((gz Af (10 + (6 * x))) - (gz Af (10 + (6 * y))))
      refine lv_iload hx hb dX12_lightOf_71 (lv_at hl 0 rfl) ?_
      refine lv_iload hx hb dX12_lightOf_73 (lv_at hl 2 rfl) ?_
      refine lv_iload hx hb dX12_lightOf_75 (lv_at hl 1 rfl) ?_
      refine va_mmin (rest := [.int (iZ (12 - (zab ((hd (sh Af 10) x w) - (hd (sh Af 10) y t))))), .int (iZ (zab ((gz Af (10 + (6 * x))) - (gz Af (10 + (6 * y)))))), .int (iZ 1)]) hx hb (by rw [hml]; exact hl.1.symm) (own := RX12) hown (hts _ qm_X12_137) (hts _ qt_yJ9_min_7cf53) (hts _ qz_J9) (hts _ qc_J9_min_7cf53) (Nat.le_of_ble_eq_true rfl) (Nat.le_of_ble_eq_true rfl) (Nat.le_of_ble_eq_true rfl) (Nat.le_of_ble_eq_true rfl) dX12_lightOf_77 ?_
      refine lv_topi (fun x_21 ex_21 => ?_)
      obtain rfl : x_21 = iZ (min (gz Af (10 + (6 * x))) (gz Af (10 + (6 * y)))) := ex_21.trans (zmin ⟨by omega, by omega⟩ ⟨by omega, by omega⟩)
      have hm_80 := mul_b (a := (12 - (zab ((hd (sh Af 10) x w) - (hd (sh Af 10) y t))))) (b := (min (gz Af (10 + (6 * x))) (gz Af (10 + (6 * y))))) (A := 6) (B := 20) (by omega) (by omega) (by omega) (by omega)
      refine lv_imul hx hb dX12_lightOf_80 ?_
      refine lv_topi (fun x_22 ex_22 => ?_)
      obtain rfl : x_22 = iZ ((12 - (zab ((hd (sh Af 10) x w) - (hd (sh Af 10) y t)))) * (min (gz Af (10 + (6 * x))) (gz Af (10 + (6 * y))))) := ex_22.trans (iZ_mul (12 - (zab ((hd (sh Af 10) x w) - (hd (sh Af 10) y t)))) (min (gz Af (10 + (6 * x))) (gz Af (10 + (6 * y)))))
      refine lv_bipush (v := iZ 6) hx hb dX12_lightOf_81 bip_6 ?_
      refine lv_idiv hx hb dX12_lightOf_83 (by rw [zne rfl ⟨by omega, by omega⟩]; omega) ?_
      have hd_83 := zdiv_b (a := ((12 - (zab ((hd (sh Af 10) x w) - (hd (sh Af 10) y t)))) * (min (gz Af (10 + (6 * x))) (gz Af (10 + (6 * y)))))) (b := 6) (by omega) (by omega)
      refine lv_topi (fun x_23 ex_23 => ?_)
      obtain rfl : x_23 = iZ (((12 - (zab ((hd (sh Af 10) x w) - (hd (sh Af 10) y t)))) * (min (gz Af (10 + (6 * x))) (gz Af (10 + (6 * y))))) / 6) := ex_23.trans (iZ_div (a := ((12 - (zab ((hd (sh Af 10) x w) - (hd (sh Af 10) y t)))) * (min (gz Af (10 + (6 * x))) (gz Af (10 + (6 * y)))))) (b := 6) (by omega) (by omega) (by omega) (by omega))
      refine lv_iadd hx hb dX12_lightOf_84 ?_
      refine lv_topi (fun x_24 ex_24 => ?_)
      obtain rfl : x_24 = iZ ((zab ((gz Af (10 + (6 * x))) - (gz Af (10 + (6 * y))))) + (((12 - (zab ((hd (sh Af 10) x w) - (hd (sh Af 10) y t)))) * (min (gz Af (10 + (6 * x))) (gz Af (10 + (6 * y))))) / 6)) := ex_24.trans (iZ_add (zab ((gz Af (10 + (6 * x))) - (gz Af (10 + (6 * y))))) (((12 - (zab ((hd (sh Af 10) x w) - (hd (sh Af 10) y t)))) * (min (gz Af (10 + (6 * x))) (gz Af (10 + (6 * y))))) / 6))
      refine va_mmax (rest := []) hx hb (by rw [hml]; exact hl.1.symm) (own := RX12) hown (hts _ qm_X12_255) (hts _ qt_yJ9_max_7cf53) (hts _ qz_J9) (hts _ qc_J9_max_7cf53) (Nat.le_of_ble_eq_true rfl) (Nat.le_of_ble_eq_true rfl) (Nat.le_of_ble_eq_true rfl) (Nat.le_of_ble_eq_true rfl) dX12_lightOf_85 ?_
      refine lv_topi (fun x_25 ex_25 => ?_)
      obtain rfl : x_25 = iZ (max 1 ((zab ((gz Af (10 + (6 * x))) - (gz Af (10 + (6 * y))))) + (((12 - (zab ((hd (sh Af 10) x w) - (hd (sh Af 10) y t)))) * (min (gz Af (10 + (6 * x))) (gz Af (10 + (6 * y))))) / 6))) := ex_25.trans (zmax ⟨by omega, by omega⟩ ⟨by omega, by omega⟩)
      exact ERi hx hb hr hlocks (congrArg iZ (lt_ref (F := sh Af 10) (a := x) (w := w) (b := y) (t := t) (by omega) (sh10z Af h9x.1) (sh10z Af h9y.1) (sp_b (by omega)))) dX12_lightOf_88
  ·
    have c_1 := (zeq (x := iZ x) (y := iZ y) rfl rfl ⟨by omega, by omega⟩ ⟨by omega, by omega⟩).mp c_1
    refine lv_iconst (v := iZ 0) hx hb dX12_lightOf_5 rfl ?_
    exact ERi hx hb hr hlocks (congrArg iZ (show 0 = lt (sh Af 10) x w y t from (by unfold lt ap; rw [if_pos (by omega)]))) dX12_lightOf_6
set_option maxHeartbeats 4000000 in
set_option maxRecDepth 100000 in
theorem m_iced (l : Launch) (D : va_G) (k : Nat → ClassId) (fs : List Value) (hm : Nat) (Ma : Nat) (Af : Nat → Int32) (x : Int) (y : Int) (w : Int) (f0 : fs[0]? = some (.ref Ma)) (hM : M0 Af) (h9x : -2147483648 ≤ x ∧ x < 2147483648) (h9y : -2147483648 ≤ y ∧ y < 2147483648) (h9w : -2147483648 ≤ w ∧ w < 2147483648) : RD l yX12_isIced cX12_isIced 7 (some .boolean) 0 D k [.ref hm, .int (iZ x), .int (iZ y), .int (iZ w)] [(hm, .inr (12, fs)), (Ma, .inl (k 1, 5340, .inl Af))] (iZ (bz (isIc (sh Af 46) (gz Af 1) x y w))) := by
  refine MR (by decide) (Nat.le_of_ble_eq_true rfl) (fun p e s m below meth c ls hx hb hml hr hlocks hts hown hKK hP hl => ?_)
  have hK := hKK.1
  have hl : lv_has ls 7 [(0, .ref hm), (1, .int (iZ x)), (2, .int (iZ y)), (3, .int (iZ w))] := hl
  obtain ⟨m0, m1, m3, m4, m5, mF, mO, mS⟩ := id hM
  refine lv_iconst (v := iZ 0) hx hb dX12_isIced_0 rfl ?_
  refine lv_istore (lv' := [(4, .int (iZ 0)), (0, .ref hm), (1, .int (iZ x)), (2, .int (iZ y)), (3, .int (iZ w))]) hx hb dX12_isIced_1 hl (bl rfl) rfl (fun ls hl => ?_)
  have HL1 : ∀ (fu : Nat) (i : Int) (ls : Array Slot), (gz Af 1 + 1 - i) < (fu : Int) → 0 ≤ i → i ≤ gz Af 1 → (∀ j : Int, 0 ≤ j → j < i → ¬ icR (sh Af 46) j x y w) → lv_has ls 7 [(4, .int (iZ i)), (0, .ref hm), (1, .int (iZ x)), (2, .int (iZ y)), (3, .int (iZ w))] → W p l e (rj 0 0 0) s m [.ref hm, .int (iZ x), .int (iZ y), .int (iZ w)].toArray below meth c s.heap [] 0 0 (MQ below (QcRead (iZ (bz (isIc (sh Af 46) (gz Af 1) x y w)))) [.ref hm, .int (iZ x), .int (iZ y), .int (iZ w)].toArray s 0 0 (fun _ => False)) (F0 m 3 ls []) := by
    intro fu
    induction fu with
    | zero => intro i ls hμ1 hi1 hi2 hi3 hl; exact absurd hμ1 (by omega)
    | succ fu ih1 =>
      intro i ls hμ1 hi1 hi2 hi3 hl
      refine lv_iload hx hb dX12_isIced_3 (lv_at hl 0 rfl) ?_
      refine lv_aload_n hx hb dX12_isIced_5 rfl (lv_at hl 1 rfl) ?_
      refine va_get (D := D) (ci := 12) (v := .ref Ma) (C := RX12) (T := TX12) (N := 36) hx hb hts iX12 hown hK hP 0 rfl rfl 0 (bl rfl) (hts _ qf_X12_7) (fun _ h => h) f0 dX12_isIced_6 ?_
      refine lv_iconst (v := iZ 1) hx hb dX12_isIced_9 rfl ?_
      refine va_iald hx hb hK hP 1 1 rfl rfl (zin (e := 1) (n := 5340) ⟨by omega, by omega⟩ (bl rfl)) dX12_isIced_10 ?_
      refine lv_topi (fun x_1 ex_1 => ?_)
      obtain rfl : x_1 = iZ (gz Af 1) := ex_1.trans (gz_eq ⟨by omega, by omega⟩)
      have h_2 := gz_rg Af 1
      refine lv_icmp_ge (tgt := 117) hx hb dX12_isIced_11 rfl (fun c_3 => ?_) (fun c_3 => ?_)
      ·
        have c_3 := (zle (x := iZ (gz Af 1)) (y := iZ i) rfl rfl (gz_rg Af 1) ⟨by omega, by omega⟩).mp c_3
        refine lv_iconst (v := iZ 0) hx hb dX12_isIced_117 rfl ?_
        exact ERz hx hb hr hlocks rfl (by rw [bz_f (fun ⟨j, h1, h2, h3⟩ => hi3 j h1 (by omega) h3)]) dX12_isIced_118
      ·
        have c_3 := mt (zle (x := iZ (gz Af 1)) (y := iZ i) rfl rfl (gz_rg Af 1) ⟨by omega, by omega⟩).mpr c_3
        refine lv_bipush (v := iZ 46) hx hb dX12_isIced_14 bip_46 ?_
        refine lv_iconst (v := iZ 4) hx hb dX12_isIced_16 rfl ?_
        refine lv_iload hx hb dX12_isIced_17 (lv_at hl 0 rfl) ?_
        refine lv_imul hx hb dX12_isIced_19 ?_
        refine lv_topi (fun x_4 ex_4 => ?_)
        obtain rfl : x_4 = iZ (4 * i) := ex_4.trans (iZ_mul 4 i)
        refine lv_iadd hx hb dX12_isIced_20 ?_
        refine lv_topi (fun x_5 ex_5 => ?_)
        obtain rfl : x_5 = iZ (46 + (4 * i)) := ex_5.trans (iZ_add 46 (4 * i))
        refine lv_istore (lv' := [(5, .int (iZ (46 + (4 * i)))), (4, .int (iZ i)), (0, .ref hm), (1, .int (iZ x)), (2, .int (iZ y)), (3, .int (iZ w))]) hx hb dX12_isIced_21 hl (bl rfl) rfl (fun ls hl => ?_)
        refine lv_aload_n hx hb dX12_isIced_23 rfl (lv_at hl 2 rfl) ?_
        refine va_get (D := D) (ci := 12) (v := .ref Ma) (C := RX12) (T := TX12) (N := 36) hx hb hts iX12 hown hK hP 0 rfl rfl 0 (bl rfl) (hts _ qf_X12_7) (fun _ h => h) f0 dX12_isIced_24 ?_
        refine lv_iload hx hb dX12_isIced_27 (lv_at hl 0 rfl) ?_
        refine va_iald hx hb hK hP 1 1 rfl rfl (zin (e := (46 + (4 * i))) (n := 5340) ⟨by omega, by omega⟩ (bl rfl)) dX12_isIced_29 ?_
        refine lv_topi (fun x_6 ex_6 => ?_)
        obtain rfl : x_6 = iZ (gz Af (46 + (4 * i))) := ex_6.trans (gz_eq ⟨by omega, by omega⟩)
        have h_7 := gz_rg Af (46 + (4 * i))
        refine lv_iload_n hx hb dX12_isIced_30 rfl (lv_at hl 3 rfl) ?_
        refine lv_icmp_ne (tgt := 47) hx hb dX12_isIced_31 rfl (fun c_8 => ?_) (fun c_8 => ?_)
        ·
          have c_8 := mt (zeq (x := iZ (gz Af (46 + (4 * i)))) (y := iZ x) rfl rfl (gz_rg Af (46 + (4 * i))) ⟨by omega, by omega⟩).mpr c_8
          refine lv_aload_n hx hb dX12_isIced_47 rfl (lv_at hl 2 rfl) ?_
          refine va_get (D := D) (ci := 12) (v := .ref Ma) (C := RX12) (T := TX12) (N := 36) hx hb hts iX12 hown hK hP 0 rfl rfl 0 (bl rfl) (hts _ qf_X12_7) (fun _ h => h) f0 dX12_isIced_48 ?_
          refine lv_iload hx hb dX12_isIced_51 (lv_at hl 0 rfl) ?_
          refine va_iald hx hb hK hP 1 1 rfl rfl (zin (e := (46 + (4 * i))) (n := 5340) ⟨by omega, by omega⟩ (bl rfl)) dX12_isIced_53 ?_
          refine lv_topi (fun x_9 ex_9 => ?_)
          obtain rfl : x_9 = iZ (gz Af (46 + (4 * i))) := ex_9.trans (gz_eq ⟨by omega, by omega⟩)
          have h_10 := gz_rg Af (46 + (4 * i))
          refine lv_iload_n hx hb dX12_isIced_54 rfl (lv_at hl 4 rfl) ?_
          refine lv_icmp_ne (tgt := 75) hx hb dX12_isIced_55 rfl (fun c_11 => ?_) (fun c_11 => ?_)
          ·
            have c_11 := mt (zeq (x := iZ (gz Af (46 + (4 * i)))) (y := iZ y) rfl rfl (gz_rg Af (46 + (4 * i))) ⟨by omega, by omega⟩).mpr c_11
            refine lv_iconst (v := iZ 0) hx hb dX12_isIced_75 rfl ?_
            refine lv_istore (lv' := [(6, .int (iZ 0)), (5, .int (iZ (46 + (4 * i)))), (4, .int (iZ i)), (0, .ref hm), (1, .int (iZ x)), (2, .int (iZ y)), (3, .int (iZ w))]) hx hb dX12_isIced_76 hl (bl rfl) rfl (fun ls hl => ?_)
            refine lv_iload hx hb dX12_isIced_78 (lv_at hl 0 rfl) ?_
            refine lv_if_eq (tgt := 111) hx hb dX12_isIced_80 rfl (fun _ => ?_) (fun c => absurd (by decide) c)
            refine lv_iinc (v := iZ (i + 1)) (lv' := [(4, .int (iZ (i + 1))), (6, .int (iZ 0)), (5, .int (iZ (46 + (4 * i)))), (0, .ref hm), (1, .int (iZ x)), (2, .int (iZ y)), (3, .int (iZ w))]) hx hb dX12_isIced_111 hl (k := 2) rfl (iZ_add i 1) (by decide) rfl (fun ls hl => ?_)
            refine lv_goto (tgt := 3) hx hb dX12_isIced_114 rfl ?_
            exact ih1  (i + 1) _ (by omega) (by omega) (by omega) (by intro j h1 h2; rcases Int.lt_or_eq_of_le (show j ≤ i by omega) with h3 | h3; exact hi3 j h1 h3; rw [h3]; exact fun h4 => absurd ((icR_at hi1).mp h4) (by omega)) (lv_sub hl [0, 3, 4, 5, 6] rfl)
          ·
            have c_11 := (zeq (x := iZ (gz Af (46 + (4 * i)))) (y := iZ y) rfl rfl (gz_rg Af (46 + (4 * i))) ⟨by omega, by omega⟩).mp c_11
            refine lv_aload_n hx hb dX12_isIced_58 rfl (lv_at hl 2 rfl) ?_
            refine va_get (D := D) (ci := 12) (v := .ref Ma) (C := RX12) (T := TX12) (N := 36) hx hb hts iX12 hown hK hP 0 rfl rfl 0 (bl rfl) (hts _ qf_X12_7) (fun _ h => h) f0 dX12_isIced_59 ?_
            refine lv_iload hx hb dX12_isIced_62 (lv_at hl 0 rfl) ?_
            refine lv_iconst (v := iZ 1) hx hb dX12_isIced_64 rfl ?_
            refine lv_iadd hx hb dX12_isIced_65 ?_
            refine lv_topi (fun x_13 ex_13 => ?_)
            obtain rfl : x_13 = iZ ((46 + (4 * i)) + 1) := ex_13.trans (iZ_add (46 + (4 * i)) 1)
            refine va_iald hx hb hK hP 1 1 rfl rfl (zin (e := ((46 + (4 * i)) + 1)) (n := 5340) ⟨by omega, by omega⟩ (bl rfl)) dX12_isIced_66 ?_
            refine lv_topi (fun x_14 ex_14 => ?_)
            obtain rfl : x_14 = iZ (gz Af ((46 + (4 * i)) + 1)) := ex_14.trans (gz_eq ⟨by omega, by omega⟩)
            have h_15 := gz_rg Af ((46 + (4 * i)) + 1)
            refine lv_iload_n hx hb dX12_isIced_67 rfl (lv_at hl 3 rfl) ?_
            refine lv_icmp_ne (tgt := 75) hx hb dX12_isIced_68 rfl (fun c_16 => ?_) (fun c_16 => ?_)
            ·
              have c_16 := mt (zeq (x := iZ (gz Af ((46 + (4 * i)) + 1))) (y := iZ x) rfl rfl (gz_rg Af ((46 + (4 * i)) + 1)) ⟨by omega, by omega⟩).mpr c_16
              refine lv_iconst (v := iZ 0) hx hb dX12_isIced_75 rfl ?_
              refine lv_istore (lv' := [(6, .int (iZ 0)), (5, .int (iZ (46 + (4 * i)))), (4, .int (iZ i)), (0, .ref hm), (1, .int (iZ x)), (2, .int (iZ y)), (3, .int (iZ w))]) hx hb dX12_isIced_76 hl (bl rfl) rfl (fun ls hl => ?_)
              refine lv_iload hx hb dX12_isIced_78 (lv_at hl 0 rfl) ?_
              refine lv_if_eq (tgt := 111) hx hb dX12_isIced_80 rfl (fun _ => ?_) (fun c => absurd (by decide) c)
              refine lv_iinc (v := iZ (i + 1)) (lv' := [(4, .int (iZ (i + 1))), (6, .int (iZ 0)), (5, .int (iZ (46 + (4 * i)))), (0, .ref hm), (1, .int (iZ x)), (2, .int (iZ y)), (3, .int (iZ w))]) hx hb dX12_isIced_111 hl (k := 2) rfl (iZ_add i 1) (by decide) rfl (fun ls hl => ?_)
              refine lv_goto (tgt := 3) hx hb dX12_isIced_114 rfl ?_
              exact ih1  (i + 1) _ (by omega) (by omega) (by omega) (by intro j h1 h2; rcases Int.lt_or_eq_of_le (show j ≤ i by omega) with h3 | h3; exact hi3 j h1 h3; rw [h3]; exact fun h4 => absurd ((icR_at hi1).mp h4) (by omega)) (lv_sub hl [0, 3, 4, 5, 6] rfl)
            ·
              have c_16 := (zeq (x := iZ (gz Af ((46 + (4 * i)) + 1))) (y := iZ x) rfl rfl (gz_rg Af ((46 + (4 * i)) + 1)) ⟨by omega, by omega⟩).mp c_16
              refine lv_iconst (v := iZ 1) hx hb dX12_isIced_71 rfl ?_
              refine lv_goto (tgt := 76) hx hb dX12_isIced_72 rfl ?_
              refine lv_istore (lv' := [(6, .int (iZ 1)), (5, .int (iZ (46 + (4 * i)))), (4, .int (iZ i)), (0, .ref hm), (1, .int (iZ x)), (2, .int (iZ y)), (3, .int (iZ w))]) hx hb dX12_isIced_76 hl (bl rfl) rfl (fun ls hl => ?_)
              refine lv_iload hx hb dX12_isIced_78 (lv_at hl 0 rfl) ?_
              refine lv_if_eq (tgt := 111) hx hb dX12_isIced_80 rfl (fun c => absurd c (by decide)) (fun _ => ?_)
              refine lv_iload_n hx hb dX12_isIced_83 rfl (lv_at hl 6 rfl) ?_
              refine lv_aload_n hx hb dX12_isIced_84 rfl (lv_at hl 3 rfl) ?_
              refine va_get (D := D) (ci := 12) (v := .ref Ma) (C := RX12) (T := TX12) (N := 36) hx hb hts iX12 hown hK hP 0 rfl rfl 0 (bl rfl) (hts _ qf_X12_7) (fun _ h => h) f0 dX12_isIced_85 ?_
              refine lv_iload hx hb dX12_isIced_88 (lv_at hl 1 rfl) ?_
              refine lv_iconst (v := iZ 2) hx hb dX12_isIced_90 rfl ?_
              refine lv_iadd hx hb dX12_isIced_91 ?_
              refine lv_topi (fun x_19 ex_19 => ?_)
              obtain rfl : x_19 = iZ ((46 + (4 * i)) + 2) := ex_19.trans (iZ_add (46 + (4 * i)) 2)
              refine va_iald hx hb hK hP 1 1 rfl rfl (zin (e := ((46 + (4 * i)) + 2)) (n := 5340) ⟨by omega, by omega⟩ (bl rfl)) dX12_isIced_92 ?_
              refine lv_topi (fun x_20 ex_20 => ?_)
              obtain rfl : x_20 = iZ (gz Af ((46 + (4 * i)) + 2)) := ex_20.trans (gz_eq ⟨by omega, by omega⟩)
              have h_21 := gz_rg Af ((46 + (4 * i)) + 2)
              refine lv_icmp_lt (tgt := 111) hx hb dX12_isIced_93 rfl (fun c_22 => ?_) (fun c_22 => ?_)
              ·
                have c_22 := (zlt (x := iZ w) (y := iZ (gz Af ((46 + (4 * i)) + 2))) rfl rfl ⟨by omega, by omega⟩ (gz_rg Af ((46 + (4 * i)) + 2))).mp c_22
                refine lv_iinc (v := iZ (i + 1)) (lv' := [(4, .int (iZ (i + 1))), (6, .int (iZ 1)), (5, .int (iZ (46 + (4 * i)))), (0, .ref hm), (1, .int (iZ x)), (2, .int (iZ y)), (3, .int (iZ w))]) hx hb dX12_isIced_111 hl (k := 2) rfl (iZ_add i 1) (by decide) rfl (fun ls hl => ?_)
                refine lv_goto (tgt := 3) hx hb dX12_isIced_114 rfl ?_
                exact ih1  (i + 1) _ (by omega) (by omega) (by omega) (by intro j h1 h2; rcases Int.lt_or_eq_of_le (show j ≤ i by omega) with h3 | h3; exact hi3 j h1 h3; rw [h3]; exact fun h4 => absurd ((icR_at hi1).mp h4) (by omega)) (lv_sub hl [0, 3, 4, 5, 6] rfl)
              ·
                have c_22 := mt (zlt (x := iZ w) (y := iZ (gz Af ((46 + (4 * i)) + 2))) rfl rfl ⟨by omega, by omega⟩ (gz_rg Af ((46 + (4 * i)) + 2))).mpr c_22
                refine lv_iload_n hx hb dX12_isIced_96 rfl (lv_at hl 6 rfl) ?_
                refine lv_aload_n hx hb dX12_isIced_97 rfl (lv_at hl 3 rfl) ?_
                refine va_get (D := D) (ci := 12) (v := .ref Ma) (C := RX12) (T := TX12) (N := 36) hx hb hts iX12 hown hK hP 0 rfl rfl 0 (bl rfl) (hts _ qf_X12_7) (fun _ h => h) f0 dX12_isIced_98 ?_
                refine lv_iload hx hb dX12_isIced_101 (lv_at hl 1 rfl) ?_
                refine lv_iconst (v := iZ 3) hx hb dX12_isIced_103 rfl ?_
                refine lv_iadd hx hb dX12_isIced_104 ?_
                refine lv_topi (fun x_23 ex_23 => ?_)
                obtain rfl : x_23 = iZ ((46 + (4 * i)) + 3) := ex_23.trans (iZ_add (46 + (4 * i)) 3)
                refine va_iald hx hb hK hP 1 1 rfl rfl (zin (e := ((46 + (4 * i)) + 3)) (n := 5340) ⟨by omega, by omega⟩ (bl rfl)) dX12_isIced_105 ?_
                refine lv_topi (fun x_24 ex_24 => ?_)
                obtain rfl : x_24 = iZ (gz Af ((46 + (4 * i)) + 3)) := ex_24.trans (gz_eq ⟨by omega, by omega⟩)
                have h_25 := gz_rg Af ((46 + (4 * i)) + 3)
                refine lv_icmp_gt (tgt := 111) hx hb dX12_isIced_106 rfl (fun c_26 => ?_) (fun c_26 => ?_)
                ·
                  have c_26 := (zlt (x := iZ (gz Af ((46 + (4 * i)) + 3))) (y := iZ w) rfl rfl (gz_rg Af ((46 + (4 * i)) + 3)) ⟨by omega, by omega⟩).mp c_26
                  refine lv_iinc (v := iZ (i + 1)) (lv' := [(4, .int (iZ (i + 1))), (6, .int (iZ 1)), (5, .int (iZ (46 + (4 * i)))), (0, .ref hm), (1, .int (iZ x)), (2, .int (iZ y)), (3, .int (iZ w))]) hx hb dX12_isIced_111 hl (k := 2) rfl (iZ_add i 1) (by decide) rfl (fun ls hl => ?_)
                  refine lv_goto (tgt := 3) hx hb dX12_isIced_114 rfl ?_
                  exact ih1  (i + 1) _ (by omega) (by omega) (by omega) (by intro j h1 h2; rcases Int.lt_or_eq_of_le (show j ≤ i by omega) with h3 | h3; exact hi3 j h1 h3; rw [h3]; exact fun h4 => absurd ((icR_at hi1).mp h4) (by omega)) (lv_sub hl [0, 3, 4, 5, 6] rfl)
                ·
                  have c_26 := mt (zlt (x := iZ (gz Af ((46 + (4 * i)) + 3))) (y := iZ w) rfl rfl (gz_rg Af ((46 + (4 * i)) + 3)) ⟨by omega, by omega⟩).mpr c_26
                  refine lv_iconst (v := iZ 1) hx hb dX12_isIced_109 rfl ?_
                  exact ERz hx hb hr hlocks rfl (by rw [bz_t ⟨i, hi1, by omega, (icR_at hi1).mpr (by omega)⟩]) dX12_isIced_110
        ·
          have c_8 := (zeq (x := iZ (gz Af (46 + (4 * i)))) (y := iZ x) rfl rfl (gz_rg Af (46 + (4 * i))) ⟨by omega, by omega⟩).mp c_8
          refine lv_aload_n hx hb dX12_isIced_34 rfl (lv_at hl 2 rfl) ?_
          refine va_get (D := D) (ci := 12) (v := .ref Ma) (C := RX12) (T := TX12) (N := 36) hx hb hts iX12 hown hK hP 0 rfl rfl 0 (bl rfl) (hts _ qf_X12_7) (fun _ h => h) f0 dX12_isIced_35 ?_
          refine lv_iload hx hb dX12_isIced_38 (lv_at hl 0 rfl) ?_
          refine lv_iconst (v := iZ 1) hx hb dX12_isIced_40 rfl ?_
          refine lv_iadd hx hb dX12_isIced_41 ?_
          refine lv_topi (fun x_27 ex_27 => ?_)
          obtain rfl : x_27 = iZ ((46 + (4 * i)) + 1) := ex_27.trans (iZ_add (46 + (4 * i)) 1)
          refine va_iald hx hb hK hP 1 1 rfl rfl (zin (e := ((46 + (4 * i)) + 1)) (n := 5340) ⟨by omega, by omega⟩ (bl rfl)) dX12_isIced_42 ?_
          refine lv_topi (fun x_28 ex_28 => ?_)
          obtain rfl : x_28 = iZ (gz Af ((46 + (4 * i)) + 1)) := ex_28.trans (gz_eq ⟨by omega, by omega⟩)
          have h_29 := gz_rg Af ((46 + (4 * i)) + 1)
          refine lv_iload_n hx hb dX12_isIced_43 rfl (lv_at hl 4 rfl) ?_
          refine lv_icmp_eq (tgt := 71) hx hb dX12_isIced_44 rfl (fun c_30 => ?_) (fun c_30 => ?_)
          ·
            have c_30 := (zeq (x := iZ (gz Af ((46 + (4 * i)) + 1))) (y := iZ y) rfl rfl (gz_rg Af ((46 + (4 * i)) + 1)) ⟨by omega, by omega⟩).mp c_30
            refine lv_iconst (v := iZ 1) hx hb dX12_isIced_71 rfl ?_
            refine lv_goto (tgt := 76) hx hb dX12_isIced_72 rfl ?_
            refine lv_istore (lv' := [(6, .int (iZ 1)), (5, .int (iZ (46 + (4 * i)))), (4, .int (iZ i)), (0, .ref hm), (1, .int (iZ x)), (2, .int (iZ y)), (3, .int (iZ w))]) hx hb dX12_isIced_76 hl (bl rfl) rfl (fun ls hl => ?_)
            refine lv_iload hx hb dX12_isIced_78 (lv_at hl 0 rfl) ?_
            refine lv_if_eq (tgt := 111) hx hb dX12_isIced_80 rfl (fun c => absurd c (by decide)) (fun _ => ?_)
            refine lv_iload_n hx hb dX12_isIced_83 rfl (lv_at hl 6 rfl) ?_
            refine lv_aload_n hx hb dX12_isIced_84 rfl (lv_at hl 3 rfl) ?_
            refine va_get (D := D) (ci := 12) (v := .ref Ma) (C := RX12) (T := TX12) (N := 36) hx hb hts iX12 hown hK hP 0 rfl rfl 0 (bl rfl) (hts _ qf_X12_7) (fun _ h => h) f0 dX12_isIced_85 ?_
            refine lv_iload hx hb dX12_isIced_88 (lv_at hl 1 rfl) ?_
            refine lv_iconst (v := iZ 2) hx hb dX12_isIced_90 rfl ?_
            refine lv_iadd hx hb dX12_isIced_91 ?_
            refine lv_topi (fun x_32 ex_32 => ?_)
            obtain rfl : x_32 = iZ ((46 + (4 * i)) + 2) := ex_32.trans (iZ_add (46 + (4 * i)) 2)
            refine va_iald hx hb hK hP 1 1 rfl rfl (zin (e := ((46 + (4 * i)) + 2)) (n := 5340) ⟨by omega, by omega⟩ (bl rfl)) dX12_isIced_92 ?_
            refine lv_topi (fun x_33 ex_33 => ?_)
            obtain rfl : x_33 = iZ (gz Af ((46 + (4 * i)) + 2)) := ex_33.trans (gz_eq ⟨by omega, by omega⟩)
            have h_34 := gz_rg Af ((46 + (4 * i)) + 2)
            refine lv_icmp_lt (tgt := 111) hx hb dX12_isIced_93 rfl (fun c_35 => ?_) (fun c_35 => ?_)
            ·
              have c_35 := (zlt (x := iZ w) (y := iZ (gz Af ((46 + (4 * i)) + 2))) rfl rfl ⟨by omega, by omega⟩ (gz_rg Af ((46 + (4 * i)) + 2))).mp c_35
              refine lv_iinc (v := iZ (i + 1)) (lv' := [(4, .int (iZ (i + 1))), (6, .int (iZ 1)), (5, .int (iZ (46 + (4 * i)))), (0, .ref hm), (1, .int (iZ x)), (2, .int (iZ y)), (3, .int (iZ w))]) hx hb dX12_isIced_111 hl (k := 2) rfl (iZ_add i 1) (by decide) rfl (fun ls hl => ?_)
              refine lv_goto (tgt := 3) hx hb dX12_isIced_114 rfl ?_
              exact ih1  (i + 1) _ (by omega) (by omega) (by omega) (by intro j h1 h2; rcases Int.lt_or_eq_of_le (show j ≤ i by omega) with h3 | h3; exact hi3 j h1 h3; rw [h3]; exact fun h4 => absurd ((icR_at hi1).mp h4) (by omega)) (lv_sub hl [0, 3, 4, 5, 6] rfl)
            ·
              have c_35 := mt (zlt (x := iZ w) (y := iZ (gz Af ((46 + (4 * i)) + 2))) rfl rfl ⟨by omega, by omega⟩ (gz_rg Af ((46 + (4 * i)) + 2))).mpr c_35
              refine lv_iload_n hx hb dX12_isIced_96 rfl (lv_at hl 6 rfl) ?_
              refine lv_aload_n hx hb dX12_isIced_97 rfl (lv_at hl 3 rfl) ?_
              refine va_get (D := D) (ci := 12) (v := .ref Ma) (C := RX12) (T := TX12) (N := 36) hx hb hts iX12 hown hK hP 0 rfl rfl 0 (bl rfl) (hts _ qf_X12_7) (fun _ h => h) f0 dX12_isIced_98 ?_
              refine lv_iload hx hb dX12_isIced_101 (lv_at hl 1 rfl) ?_
              refine lv_iconst (v := iZ 3) hx hb dX12_isIced_103 rfl ?_
              refine lv_iadd hx hb dX12_isIced_104 ?_
              refine lv_topi (fun x_36 ex_36 => ?_)
              obtain rfl : x_36 = iZ ((46 + (4 * i)) + 3) := ex_36.trans (iZ_add (46 + (4 * i)) 3)
              refine va_iald hx hb hK hP 1 1 rfl rfl (zin (e := ((46 + (4 * i)) + 3)) (n := 5340) ⟨by omega, by omega⟩ (bl rfl)) dX12_isIced_105 ?_
              refine lv_topi (fun x_37 ex_37 => ?_)
              obtain rfl : x_37 = iZ (gz Af ((46 + (4 * i)) + 3)) := ex_37.trans (gz_eq ⟨by omega, by omega⟩)
              have h_38 := gz_rg Af ((46 + (4 * i)) + 3)
              refine lv_icmp_gt (tgt := 111) hx hb dX12_isIced_106 rfl (fun c_39 => ?_) (fun c_39 => ?_)
              ·
                have c_39 := (zlt (x := iZ (gz Af ((46 + (4 * i)) + 3))) (y := iZ w) rfl rfl (gz_rg Af ((46 + (4 * i)) + 3)) ⟨by omega, by omega⟩).mp c_39
                refine lv_iinc (v := iZ (i + 1)) (lv' := [(4, .int (iZ (i + 1))), (6, .int (iZ 1)), (5, .int (iZ (46 + (4 * i)))), (0, .ref hm), (1, .int (iZ x)), (2, .int (iZ y)), (3, .int (iZ w))]) hx hb dX12_isIced_111 hl (k := 2) rfl (iZ_add i 1) (by decide) rfl (fun ls hl => ?_)
                refine lv_goto (tgt := 3) hx hb dX12_isIced_114 rfl ?_
                exact ih1  (i + 1) _ (by omega) (by omega) (by omega) (by intro j h1 h2; rcases Int.lt_or_eq_of_le (show j ≤ i by omega) with h3 | h3; exact hi3 j h1 h3; rw [h3]; exact fun h4 => absurd ((icR_at hi1).mp h4) (by omega)) (lv_sub hl [0, 3, 4, 5, 6] rfl)
              ·
                have c_39 := mt (zlt (x := iZ (gz Af ((46 + (4 * i)) + 3))) (y := iZ w) rfl rfl (gz_rg Af ((46 + (4 * i)) + 3)) ⟨by omega, by omega⟩).mpr c_39
                refine lv_iconst (v := iZ 1) hx hb dX12_isIced_109 rfl ?_
                exact ERz hx hb hr hlocks rfl (by rw [bz_t ⟨i, hi1, by omega, (icR_at hi1).mpr (by omega)⟩]) dX12_isIced_110
          ·
            have c_30 := mt (zeq (x := iZ (gz Af ((46 + (4 * i)) + 1))) (y := iZ y) rfl rfl (gz_rg Af ((46 + (4 * i)) + 1)) ⟨by omega, by omega⟩).mpr c_30
            refine lv_aload_n hx hb dX12_isIced_47 rfl (lv_at hl 2 rfl) ?_
            refine va_get (D := D) (ci := 12) (v := .ref Ma) (C := RX12) (T := TX12) (N := 36) hx hb hts iX12 hown hK hP 0 rfl rfl 0 (bl rfl) (hts _ qf_X12_7) (fun _ h => h) f0 dX12_isIced_48 ?_
            refine lv_iload hx hb dX12_isIced_51 (lv_at hl 0 rfl) ?_
            refine va_iald hx hb hK hP 1 1 rfl rfl (zin (e := (46 + (4 * i))) (n := 5340) ⟨by omega, by omega⟩ (bl rfl)) dX12_isIced_53 ?_
            refine lv_topi (fun x_40 ex_40 => ?_)
            obtain rfl : x_40 = iZ (gz Af (46 + (4 * i))) := ex_40.trans (gz_eq ⟨by omega, by omega⟩)
            have h_41 := gz_rg Af (46 + (4 * i))
            refine lv_iload_n hx hb dX12_isIced_54 rfl (lv_at hl 4 rfl) ?_
            refine lv_icmp_ne (tgt := 75) hx hb dX12_isIced_55 rfl (fun c_42 => ?_) (fun c_42 => ?_)
            ·
              have c_42 := mt (zeq (x := iZ (gz Af (46 + (4 * i)))) (y := iZ y) rfl rfl (gz_rg Af (46 + (4 * i))) ⟨by omega, by omega⟩).mpr c_42
              refine lv_iconst (v := iZ 0) hx hb dX12_isIced_75 rfl ?_
              refine lv_istore (lv' := [(6, .int (iZ 0)), (5, .int (iZ (46 + (4 * i)))), (4, .int (iZ i)), (0, .ref hm), (1, .int (iZ x)), (2, .int (iZ y)), (3, .int (iZ w))]) hx hb dX12_isIced_76 hl (bl rfl) rfl (fun ls hl => ?_)
              refine lv_iload hx hb dX12_isIced_78 (lv_at hl 0 rfl) ?_
              refine lv_if_eq (tgt := 111) hx hb dX12_isIced_80 rfl (fun _ => ?_) (fun c => absurd (by decide) c)
              refine lv_iinc (v := iZ (i + 1)) (lv' := [(4, .int (iZ (i + 1))), (6, .int (iZ 0)), (5, .int (iZ (46 + (4 * i)))), (0, .ref hm), (1, .int (iZ x)), (2, .int (iZ y)), (3, .int (iZ w))]) hx hb dX12_isIced_111 hl (k := 2) rfl (iZ_add i 1) (by decide) rfl (fun ls hl => ?_)
              refine lv_goto (tgt := 3) hx hb dX12_isIced_114 rfl ?_
              exact ih1  (i + 1) _ (by omega) (by omega) (by omega) (by intro j h1 h2; rcases Int.lt_or_eq_of_le (show j ≤ i by omega) with h3 | h3; exact hi3 j h1 h3; rw [h3]; exact fun h4 => absurd ((icR_at hi1).mp h4) (by omega)) (lv_sub hl [0, 3, 4, 5, 6] rfl)
            ·
              have c_42 := (zeq (x := iZ (gz Af (46 + (4 * i)))) (y := iZ y) rfl rfl (gz_rg Af (46 + (4 * i))) ⟨by omega, by omega⟩).mp c_42
              refine lv_aload_n hx hb dX12_isIced_58 rfl (lv_at hl 2 rfl) ?_
              refine va_get (D := D) (ci := 12) (v := .ref Ma) (C := RX12) (T := TX12) (N := 36) hx hb hts iX12 hown hK hP 0 rfl rfl 0 (bl rfl) (hts _ qf_X12_7) (fun _ h => h) f0 dX12_isIced_59 ?_
              refine lv_iload hx hb dX12_isIced_62 (lv_at hl 0 rfl) ?_
              refine lv_iconst (v := iZ 1) hx hb dX12_isIced_64 rfl ?_
              refine lv_iadd hx hb dX12_isIced_65 ?_
              refine lv_topi (fun x_44 ex_44 => ?_)
              obtain rfl : x_44 = iZ ((46 + (4 * i)) + 1) := ex_44.trans (iZ_add (46 + (4 * i)) 1)
              refine va_iald hx hb hK hP 1 1 rfl rfl (zin (e := ((46 + (4 * i)) + 1)) (n := 5340) ⟨by omega, by omega⟩ (bl rfl)) dX12_isIced_66 ?_
              refine lv_topi (fun x_45 ex_45 => ?_)
              obtain rfl : x_45 = iZ (gz Af ((46 + (4 * i)) + 1)) := ex_45.trans (gz_eq ⟨by omega, by omega⟩)
              have h_46 := gz_rg Af ((46 + (4 * i)) + 1)
              refine lv_iload_n hx hb dX12_isIced_67 rfl (lv_at hl 3 rfl) ?_
              refine lv_icmp_ne (tgt := 75) hx hb dX12_isIced_68 rfl (fun c_47 => ?_) (fun c_47 => ?_)
              ·
                have c_47 := mt (zeq (x := iZ (gz Af ((46 + (4 * i)) + 1))) (y := iZ x) rfl rfl (gz_rg Af ((46 + (4 * i)) + 1)) ⟨by omega, by omega⟩).mpr c_47
                refine lv_iconst (v := iZ 0) hx hb dX12_isIced_75 rfl ?_
                refine lv_istore (lv' := [(6, .int (iZ 0)), (5, .int (iZ (46 + (4 * i)))), (4, .int (iZ i)), (0, .ref hm), (1, .int (iZ x)), (2, .int (iZ y)), (3, .int (iZ w))]) hx hb dX12_isIced_76 hl (bl rfl) rfl (fun ls hl => ?_)
                refine lv_iload hx hb dX12_isIced_78 (lv_at hl 0 rfl) ?_
                refine lv_if_eq (tgt := 111) hx hb dX12_isIced_80 rfl (fun _ => ?_) (fun c => absurd (by decide) c)
                refine lv_iinc (v := iZ (i + 1)) (lv' := [(4, .int (iZ (i + 1))), (6, .int (iZ 0)), (5, .int (iZ (46 + (4 * i)))), (0, .ref hm), (1, .int (iZ x)), (2, .int (iZ y)), (3, .int (iZ w))]) hx hb dX12_isIced_111 hl (k := 2) rfl (iZ_add i 1) (by decide) rfl (fun ls hl => ?_)
                refine lv_goto (tgt := 3) hx hb dX12_isIced_114 rfl ?_
                exact ih1  (i + 1) _ (by omega) (by omega) (by omega) (by intro j h1 h2; rcases Int.lt_or_eq_of_le (show j ≤ i by omega) with h3 | h3; exact hi3 j h1 h3; rw [h3]; exact fun h4 => absurd ((icR_at hi1).mp h4) (by omega)) (lv_sub hl [0, 3, 4, 5, 6] rfl)
              ·
                have c_47 := (zeq (x := iZ (gz Af ((46 + (4 * i)) + 1))) (y := iZ x) rfl rfl (gz_rg Af ((46 + (4 * i)) + 1)) ⟨by omega, by omega⟩).mp c_47
                refine lv_iconst (v := iZ 1) hx hb dX12_isIced_71 rfl ?_
                refine lv_goto (tgt := 76) hx hb dX12_isIced_72 rfl ?_
                refine lv_istore (lv' := [(6, .int (iZ 1)), (5, .int (iZ (46 + (4 * i)))), (4, .int (iZ i)), (0, .ref hm), (1, .int (iZ x)), (2, .int (iZ y)), (3, .int (iZ w))]) hx hb dX12_isIced_76 hl (bl rfl) rfl (fun ls hl => ?_)
                refine lv_iload hx hb dX12_isIced_78 (lv_at hl 0 rfl) ?_
                refine lv_if_eq (tgt := 111) hx hb dX12_isIced_80 rfl (fun c => absurd c (by decide)) (fun _ => ?_)
                refine lv_iload_n hx hb dX12_isIced_83 rfl (lv_at hl 6 rfl) ?_
                refine lv_aload_n hx hb dX12_isIced_84 rfl (lv_at hl 3 rfl) ?_
                refine va_get (D := D) (ci := 12) (v := .ref Ma) (C := RX12) (T := TX12) (N := 36) hx hb hts iX12 hown hK hP 0 rfl rfl 0 (bl rfl) (hts _ qf_X12_7) (fun _ h => h) f0 dX12_isIced_85 ?_
                refine lv_iload hx hb dX12_isIced_88 (lv_at hl 1 rfl) ?_
                refine lv_iconst (v := iZ 2) hx hb dX12_isIced_90 rfl ?_
                refine lv_iadd hx hb dX12_isIced_91 ?_
                refine lv_topi (fun x_50 ex_50 => ?_)
                obtain rfl : x_50 = iZ ((46 + (4 * i)) + 2) := ex_50.trans (iZ_add (46 + (4 * i)) 2)
                refine va_iald hx hb hK hP 1 1 rfl rfl (zin (e := ((46 + (4 * i)) + 2)) (n := 5340) ⟨by omega, by omega⟩ (bl rfl)) dX12_isIced_92 ?_
                refine lv_topi (fun x_51 ex_51 => ?_)
                obtain rfl : x_51 = iZ (gz Af ((46 + (4 * i)) + 2)) := ex_51.trans (gz_eq ⟨by omega, by omega⟩)
                have h_52 := gz_rg Af ((46 + (4 * i)) + 2)
                refine lv_icmp_lt (tgt := 111) hx hb dX12_isIced_93 rfl (fun c_53 => ?_) (fun c_53 => ?_)
                ·
                  have c_53 := (zlt (x := iZ w) (y := iZ (gz Af ((46 + (4 * i)) + 2))) rfl rfl ⟨by omega, by omega⟩ (gz_rg Af ((46 + (4 * i)) + 2))).mp c_53
                  refine lv_iinc (v := iZ (i + 1)) (lv' := [(4, .int (iZ (i + 1))), (6, .int (iZ 1)), (5, .int (iZ (46 + (4 * i)))), (0, .ref hm), (1, .int (iZ x)), (2, .int (iZ y)), (3, .int (iZ w))]) hx hb dX12_isIced_111 hl (k := 2) rfl (iZ_add i 1) (by decide) rfl (fun ls hl => ?_)
                  refine lv_goto (tgt := 3) hx hb dX12_isIced_114 rfl ?_
                  exact ih1  (i + 1) _ (by omega) (by omega) (by omega) (by intro j h1 h2; rcases Int.lt_or_eq_of_le (show j ≤ i by omega) with h3 | h3; exact hi3 j h1 h3; rw [h3]; exact fun h4 => absurd ((icR_at hi1).mp h4) (by omega)) (lv_sub hl [0, 3, 4, 5, 6] rfl)
                ·
                  have c_53 := mt (zlt (x := iZ w) (y := iZ (gz Af ((46 + (4 * i)) + 2))) rfl rfl ⟨by omega, by omega⟩ (gz_rg Af ((46 + (4 * i)) + 2))).mpr c_53
                  refine lv_iload_n hx hb dX12_isIced_96 rfl (lv_at hl 6 rfl) ?_
                  refine lv_aload_n hx hb dX12_isIced_97 rfl (lv_at hl 3 rfl) ?_
                  refine va_get (D := D) (ci := 12) (v := .ref Ma) (C := RX12) (T := TX12) (N := 36) hx hb hts iX12 hown hK hP 0 rfl rfl 0 (bl rfl) (hts _ qf_X12_7) (fun _ h => h) f0 dX12_isIced_98 ?_
                  refine lv_iload hx hb dX12_isIced_101 (lv_at hl 1 rfl) ?_
                  refine lv_iconst (v := iZ 3) hx hb dX12_isIced_103 rfl ?_
                  refine lv_iadd hx hb dX12_isIced_104 ?_
                  refine lv_topi (fun x_54 ex_54 => ?_)
                  obtain rfl : x_54 = iZ ((46 + (4 * i)) + 3) := ex_54.trans (iZ_add (46 + (4 * i)) 3)
                  refine va_iald hx hb hK hP 1 1 rfl rfl (zin (e := ((46 + (4 * i)) + 3)) (n := 5340) ⟨by omega, by omega⟩ (bl rfl)) dX12_isIced_105 ?_
                  refine lv_topi (fun x_55 ex_55 => ?_)
                  obtain rfl : x_55 = iZ (gz Af ((46 + (4 * i)) + 3)) := ex_55.trans (gz_eq ⟨by omega, by omega⟩)
                  have h_56 := gz_rg Af ((46 + (4 * i)) + 3)
                  refine lv_icmp_gt (tgt := 111) hx hb dX12_isIced_106 rfl (fun c_57 => ?_) (fun c_57 => ?_)
                  ·
                    have c_57 := (zlt (x := iZ (gz Af ((46 + (4 * i)) + 3))) (y := iZ w) rfl rfl (gz_rg Af ((46 + (4 * i)) + 3)) ⟨by omega, by omega⟩).mp c_57
                    refine lv_iinc (v := iZ (i + 1)) (lv' := [(4, .int (iZ (i + 1))), (6, .int (iZ 1)), (5, .int (iZ (46 + (4 * i)))), (0, .ref hm), (1, .int (iZ x)), (2, .int (iZ y)), (3, .int (iZ w))]) hx hb dX12_isIced_111 hl (k := 2) rfl (iZ_add i 1) (by decide) rfl (fun ls hl => ?_)
                    refine lv_goto (tgt := 3) hx hb dX12_isIced_114 rfl ?_
                    exact ih1  (i + 1) _ (by omega) (by omega) (by omega) (by intro j h1 h2; rcases Int.lt_or_eq_of_le (show j ≤ i by omega) with h3 | h3; exact hi3 j h1 h3; rw [h3]; exact fun h4 => absurd ((icR_at hi1).mp h4) (by omega)) (lv_sub hl [0, 3, 4, 5, 6] rfl)
                  ·
                    have c_57 := mt (zlt (x := iZ (gz Af ((46 + (4 * i)) + 3))) (y := iZ w) rfl rfl (gz_rg Af ((46 + (4 * i)) + 3)) ⟨by omega, by omega⟩).mpr c_57
                    refine lv_iconst (v := iZ 1) hx hb dX12_isIced_109 rfl ?_
                    exact ERz hx hb hr hlocks rfl (by rw [bz_t ⟨i, hi1, by omega, (icR_at hi1).mpr (by omega)⟩]) dX12_isIced_110
  exact HL1 10 0 _ (by omega) (by omega) (by omega) (fun j h1 h2 => absurd h1 (by omega)) (lv_sub hl [0, 1, 2, 3, 4] rfl)
