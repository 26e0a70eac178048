def at0 : Nat → Int32 := fun i => if i = 5 then -1 else 0
theorem bw_3 {v : Int32} (h : ¬ v < 0) : bw v 3 = if 4 ≤ v then 0 else 1 := by
  unfold bw
  rw [if_neg h]
  by_cases h4 : 4 ≤ v
  · rw [if_pos h4, if_pos]
    have := Int32.le_iff_toInt_le.mp h4
    exact Int32.lt_iff_toInt_lt.mpr (by have e3 : (3 : Int32).toInt = 3 := rfl; have e4 : (4 : Int32).toInt = 4 := rfl; omega)
  · rw [if_neg h4, if_neg]
    intro q
    have := Int32.lt_iff_toInt_lt.mp q
    exact h4 (Int32.le_iff_toInt_le.mpr (by have e3 : (3 : Int32).toInt = 3 := rfl; have e4 : (4 : Int32).toInt = 4 := rfl; omega))
theorem upd_z {f : Nat → Int32} {n : Nat} (hn : n < 2 ^ 31) (h : f n = 0) : upd f (nI n).toNatClampNeg 0 = f := by
  rw [nI_clamp hn]
  funext j
  unfold upd
  by_cases hj : j = n
  · rw [if_pos hj, hj, h]
  · rw [if_neg hj]
theorem upd_o {f : Nat → Int32} {n j : Nat} {x : Int32} (hn : n < 2 ^ 31) (h : j ≠ n) : upd f (nI n).toNatClampNeg x j = f j := by
  rw [nI_clamp hn]
  exact pk_un h
theorem upd_i {f : Nat → Int32} {n : Nat} {x : Int32} (hn : n < 2 ^ 31) : upd f (nI n).toNatClampNeg x n = x := by
  rw [nI_clamp hn]
  exact pk_us
def bl (v a b : Int64) : Int32 := if lg_cmp v a < 0 then 0 else if 0 < lg_cmp v b then 0 else 1
theorem bl_z {v a b : Int64} : narrow .boolean (.int (bl v a b)) = .int (bl v a b) := by
  unfold bl
  by_cases h : lg_cmp v a < 0
  · rw [if_pos h]; rfl
  · rw [if_neg h]
    by_cases h2 : 0 < lg_cmp v b
    · rw [if_pos h2]; rfl
    · rw [if_neg h2]; rfl
theorem lgc_lt {x y : Int64} : lg_cmp x y < 0 ↔ x < y := by
  unfold lg_cmp
  simp only [gt_iff_lt, Int64.lt_iff_toInt_lt, ← Int64.toInt_inj, Int32.lt_iff_toInt_lt]
  have e0 : (0 : Int32).toInt = 0 := rfl
  have e1 : (1 : Int32).toInt = 1 := rfl
  have e2 : (-1 : Int32).toInt = -1 := rfl
  split
  · rw [e1, e0]; omega
  · split
    · rw [e0]; omega
    · rw [e2, e0]; omega
theorem lgc_gt {x y : Int64} : 0 < lg_cmp x y ↔ y < x := by
  unfold lg_cmp
  simp only [gt_iff_lt, Int64.lt_iff_toInt_lt, ← Int64.toInt_inj, Int32.lt_iff_toInt_lt]
  have e0 : (0 : Int32).toInt = 0 := rfl
  have e1 : (1 : Int32).toInt = 1 := rfl
  have e2 : (-1 : Int32).toInt = -1 := rfl
  split
  · rw [e1, e0]; omega
  · split
    · rw [e0]; omega
    · rw [e2, e0]; omega
theorem bl_ps {a : Int32} (h : bl a.toInt64 1 99 = 0) : psA a = -1 := by
  unfold psA
  by_cases h1 : a < 1
  · rw [if_pos h1]
  · rw [if_neg h1]
    by_cases h2 : 99 < a
    · rw [if_pos h2]
    · exfalso
      unfold bl at h
      have e1 : ¬ a.toInt64 < 1 := fun q => h1 (Int32.lt_iff_toInt_lt.mpr (by have := Int64.lt_iff_toInt_lt.mp q; rw [Int32.toInt_toInt64] at this; exact this))
      have e2 : ¬ 99 < a.toInt64 := fun q => h2 (Int32.lt_iff_toInt_lt.mpr (by have := Int64.lt_iff_toInt_lt.mp q; rw [Int32.toInt_toInt64] at this; exact this))
      rw [if_neg (fun q => e1 (lgc_lt.mp q)), if_neg (fun q => e2 (lgc_gt.mp q))] at h
      exact absurd h (by decide)
theorem bl_nat {a : Int32} (h : ¬ bl a.toInt64 1 99 = 0) : ∃ j : Nat, j ≤ 99 ∧ 1 ≤ j ∧ a = nI j := by
  unfold bl at h
  by_cases h1 : a.toInt64 < 1
  · rw [if_pos (lgc_lt.mpr h1)] at h; exact absurd rfl h
  · rw [if_neg (fun q => h1 (lgc_lt.mp q))] at h
    by_cases h2 : 99 < a.toInt64
    · rw [if_pos (lgc_gt.mpr h2)] at h; exact absurd rfl h
    · refine ps_nat (fun q => h1 (Int64.lt_iff_toInt_lt.mpr ?_)) (Int32.not_lt.mp fun q => h2 (Int64.lt_iff_toInt_lt.mpr ?_))
      · rw [Int32.toInt_toInt64]; exact Int32.lt_iff_toInt_lt.mp q
      · rw [Int32.toInt_toInt64]; exact Int32.lt_iff_toInt_lt.mp q
set_option maxHeartbeats 4000000 in
set_option maxRecDepth 100000 in
theorem m_isWeek (l : Launch) (D : va_G) (k : Nat → ClassId) (v : Int32) : RD l yX12_isWeek cX12_isWeek 1 (some .boolean) 0 D k [.int v] [] (bw v 400) := by
  refine MR (by decide) (Nat.le_of_ble_eq_true rfl) (fun p e s m below meth c ls hx hb hml hr hlocks hts hown hKK hP hl => ?_)
  have hK := hKK.1
  have hl : lv_has ls 1 [(0, .int v)] := hl
  refine lv_iload_n hx hb dX12_isWeek_0 rfl (lv_at hl 0 rfl) ?_
  refine lv_if_lt (tgt := 15) hx hb dX12_isWeek_1 (by decide) (fun c_1 => ?_) (fun c_1 => ?_)
  ·
    refine lv_iconst (v := 0) hx hb dX12_isWeek_15 (by decide) ?_
    exact ERz hx hb hr hlocks rfl (by simp [bw, c_1]) dX12_isWeek_16
  ·
    refine lv_iload_n hx hb dX12_isWeek_4 rfl (lv_at hl 0 rfl) ?_
    refine lv_sipush (v := 400) hx hb dX12_isWeek_5 (by decide) ?_
    refine lv_icmp_gt (tgt := 15) hx hb dX12_isWeek_8 (by decide) (fun c_2 => ?_) (fun c_2 => ?_)
    ·
      refine lv_iconst (v := 0) hx hb dX12_isWeek_15 (by decide) ?_
      exact ERz hx hb hr hlocks rfl (by simp [bw, c_1, c_2]) dX12_isWeek_16
    ·
      refine lv_iconst (v := 1) hx hb dX12_isWeek_11 (by decide) ?_
      refine lv_goto (tgt := 16) hx hb dX12_isWeek_12 (by decide) ?_
      exact ERz hx hb hr hlocks rfl (by simp [bw, c_1, c_2]) dX12_isWeek_16
set_option maxHeartbeats 4000000 in
set_option maxRecDepth 100000 in
theorem m_isAsked (l : Launch) (D : va_G) (k : Nat → ClassId) (v : Int32) : RD l yX12_isAsked cX12_isAsked 1 (some .boolean) 0 D k [.int v] [] (bw v 500) := by
  refine MR (by decide) (Nat.le_of_ble_eq_true rfl) (fun p e s m below meth c ls hx hb hml hr hlocks hts hown hKK hP hl => ?_)
  have hK := hKK.1
  have hl : lv_has ls 1 [(0, .int v)] := hl
  refine lv_iload_n hx hb dX12_isAsked_0 rfl (lv_at hl 0 rfl) ?_
  refine lv_if_lt (tgt := 15) hx hb dX12_isAsked_1 (by decide) (fun c_1 => ?_) (fun c_1 => ?_)
  ·
    refine lv_iconst (v := 0) hx hb dX12_isAsked_15 (by decide) ?_
    exact ERz hx hb hr hlocks rfl (by simp [bw, c_1]) dX12_isAsked_16
  ·
    refine lv_iload_n hx hb dX12_isAsked_4 rfl (lv_at hl 0 rfl) ?_
    refine lv_sipush (v := 500) hx hb dX12_isAsked_5 (by decide) ?_
    refine lv_icmp_gt (tgt := 15) hx hb dX12_isAsked_8 (by decide) (fun c_2 => ?_) (fun c_2 => ?_)
    ·
      refine lv_iconst (v := 0) hx hb dX12_isAsked_15 (by decide) ?_
      exact ERz hx hb hr hlocks rfl (by simp [bw, c_1, c_2]) dX12_isAsked_16
    ·
      refine lv_iconst (v := 1) hx hb dX12_isAsked_11 (by decide) ?_
      refine lv_goto (tgt := 16) hx hb dX12_isAsked_12 (by decide) ?_
      exact ERz hx hb hr hlocks rfl (by simp [bw, c_1, c_2]) dX12_isAsked_16
set_option maxHeartbeats 4000000 in
set_option maxRecDepth 100000 in
theorem m_isTray (l : Launch) (D : va_G) (k : Nat → ClassId) (v : Int32) : RD l yX12_isTray cX12_isTray 1 (some .boolean) 0 D k [.int v] [] (bw v 3) := by
  refine MR (by decide) (Nat.le_of_ble_eq_true rfl) (fun p e s m below meth c ls hx hb hml hr hlocks hts hown hKK hP hl => ?_)
  have hK := hKK.1
  have hl : lv_has ls 1 [(0, .int v)] := hl
  refine lv_iload_n hx hb dX12_isTray_0 rfl (lv_at hl 0 rfl) ?_
  refine lv_if_lt (tgt := 13) hx hb dX12_isTray_1 (by decide) (fun c_1 => ?_) (fun c_1 => ?_)
  ·
    refine lv_iconst (v := 0) hx hb dX12_isTray_13 (by decide) ?_
    exact ERz hx hb hr hlocks rfl (by simp [bw, c_1]) dX12_isTray_14
  ·
    refine lv_iload_n hx hb dX12_isTray_4 rfl (lv_at hl 0 rfl) ?_
    refine lv_iconst (v := 4) hx hb dX12_isTray_5 (by decide) ?_
    refine lv_icmp_ge (tgt := 13) hx hb dX12_isTray_6 (by decide) (fun c_2 => ?_) (fun c_2 => ?_)
    ·
      refine lv_iconst (v := 0) hx hb dX12_isTray_13 (by decide) ?_
      exact ERz hx hb hr hlocks rfl (by rw [bw_3 c_1]; simp [c_1, c_2]) dX12_isTray_14
    ·
      refine lv_iconst (v := 1) hx hb dX12_isTray_9 (by decide) ?_
      refine lv_goto (tgt := 14) hx hb dX12_isTray_10 (by decide) ?_
      exact ERz hx hb hr hlocks rfl (by rw [bw_3 c_1]; simp [c_1, c_2]) dX12_isTray_14
set_option maxHeartbeats 4000000 in
set_option maxRecDepth 100000 in
theorem m_isFrom (l : Launch) (D : va_G) (k : Nat → ClassId) (v a b : Int64) : RD l yX12_isFrom cX12_isFrom 6 (some .boolean) 0 D k [.long v, .long a, .long b] [] (bl v a b) := by
  refine MR (by decide) (Nat.le_of_ble_eq_true rfl) (fun p e s m below meth c ls hx hb hml hr hlocks hts hown hKK hP hl => ?_)
  have hK := hKK.1
  have hl : lv_has ls 6 [(0, .long v), (2, .long a), (4, .long b)] := hl
  refine lv_lload_n hx hb dX12_isFrom_0 rfl (lv_at hl 0 rfl) ?_
  refine lv_lload_n hx hb dX12_isFrom_1 rfl (lv_at hl 1 rfl) ?_
  refine W.lcmp hx hb dX12_isFrom_2 ?_
  refine lv_if_lt (tgt := 17) hx hb dX12_isFrom_3 (by decide) (fun c_1 => ?_) (fun c_1 => ?_)
  ·
    refine lv_iconst (v := 0) hx hb dX12_isFrom_17 (by decide) ?_
    exact ERz hx hb hr hlocks rfl (by simp [bl, c_1]) dX12_isFrom_18
  ·
    refine lv_lload_n hx hb dX12_isFrom_6 rfl (lv_at hl 0 rfl) ?_
    refine lv_lload hx hb dX12_isFrom_7 (lv_at hl 2 rfl) ?_
    refine W.lcmp hx hb dX12_isFrom_9 ?_
    refine lv_if_gt (tgt := 17) hx hb dX12_isFrom_10 (by decide) (fun c_2 => ?_) (fun c_2 => ?_)
    ·
      refine lv_iconst (v := 0) hx hb dX12_isFrom_17 (by decide) ?_
      exact ERz hx hb hr hlocks rfl (by simp [bl, c_1, c_2]) dX12_isFrom_18
    ·
      refine lv_iconst (v := 1) hx hb dX12_isFrom_13 (by decide) ?_
      refine lv_goto (tgt := 18) hx hb dX12_isFrom_14 (by decide) ?_
      exact ERz hx hb hr hlocks rfl (by simp [bl, c_1, c_2]) dX12_isFrom_18
set_option maxHeartbeats 4000000 in
set_option maxRecDepth 100000 in
theorem m_isRock (l : Launch) (D : va_G) (k : Nat → ClassId) (q : Nat → Nat) (x : Int32) : RD l yX12_isRock cX12_isRock 2 (some .boolean) 0 D k [.ref (q 200), .int x] [((q 200), .inr (12, [.ref (q 201), .ref (q 202), .int 0, .long 0, .long 1, .ref (q 203), .ref (q 204), .ref (q 205), .ref (q 206), .ref (q 207), .int 0, .int 0, .int 0, .int 0, .int 0, .int 0, .int (-1), .int (-1), .int 0, .int 0, .int 0, .ref (q 208), .int 0, .int 0, .ref (q 209), .ref (q 210), .ref (q 211), .ref (q 212), .ref (q 213), .int 0, .int 0, .ref (q 214), .ref (q 215), .ref (q 216), .int 0, .int 0])), ((q 201), .inl (k 1, 5340, .inl at0))] 0 := by
  refine MR (by decide) (Nat.le_of_ble_eq_true rfl) (fun p e s m below meth c ls hx hb hml hr hlocks hts hown hKK hP hl => ?_)
  have hK := hKK.1
  have hl : lv_has ls 2 [(0, .ref (q 200)), (1, .int x)] := hl
  refine lv_iload_n hx hb dX12_isRock_0 rfl (lv_at hl 1 rfl) ?_
  refine lv_if_lt (tgt := 18) hx hb dX12_isRock_1 (by decide) (fun c_1 => ?_) (fun c_1 => ?_)
  ·
    refine lv_iconst (v := 0) hx hb dX12_isRock_18 (by decide) ?_
    exact ERz hx hb hr hlocks rfl rfl dX12_isRock_19
  ·
    refine lv_iload_n hx hb dX12_isRock_4 rfl (lv_at hl 1 rfl) ?_
    refine lv_aload_n hx hb dX12_isRock_5 rfl (lv_at hl 0 rfl) ?_
    refine va_get (D := D) (ci := 12) (v := .ref (q 201)) (C := RX12) (T := TX12) (N := 36) hx hb hts iX12 hown hK hP 0 rfl rfl 0 (by decide) (hts _ qf_X12_7) (fun _ h => h) rfl dX12_isRock_6 ?_
    refine lv_iconst (v := 0) hx hb dX12_isRock_9 (by decide) ?_
    refine va_iald hx hb hK hP 1 1 rfl rfl (xin 0 5340 rfl (by decide) (by decide)) dX12_isRock_10 ?_
    refine lv_topi (fun x_2 ex_2 => ?_)
    obtain rfl : x_2 = 0 := ex_2.trans (by decide +kernel)
    refine lv_icmp_ge (tgt := 18) hx hb dX12_isRock_11 (by decide) (fun _ => ?_) (fun c => absurd (Int32.not_lt.mp c_1) c)
    refine lv_iconst (v := 0) hx hb dX12_isRock_18 (by decide) ?_
    exact ERz hx hb hr hlocks rfl rfl dX12_isRock_19
set_option maxHeartbeats 4000000 in
set_option maxRecDepth 100000 in
theorem m_isOrder (l : Launch) (D : va_G) (k : Nat → ClassId) (q : Nat → Nat) (x : Int32) : RD l yX12_isOrder cX12_isOrder 2 (some .boolean) 0 D k [.ref (q 200), .int x] [((q 200), .inr (12, [.ref (q 201), .ref (q 202), .int 0, .long 0, .long 1, .ref (q 203), .ref (q 204), .ref (q 205), .ref (q 206), .ref (q 207), .int 0, .int 0, .int 0, .int 0, .int 0, .int 0, .int (-1), .int (-1), .int 0, .int 0, .int 0, .ref (q 208), .int 0, .int 0, .ref (q 209), .ref (q 210), .ref (q 211), .ref (q 212), .ref (q 213), .int 0, .int 0, .ref (q 214), .ref (q 215), .ref (q 216), .int 0, .int 0])), ((q 201), .inl (k 1, 5340, .inl at0))] 0 := by
  refine MR (by decide) (Nat.le_of_ble_eq_true rfl) (fun p e s m below meth c ls hx hb hml hr hlocks hts hown hKK hP hl => ?_)
  have hK := hKK.1
  have hl : lv_has ls 2 [(0, .ref (q 200)), (1, .int x)] := hl
  refine lv_iload_n hx hb dX12_isOrder_0 rfl (lv_at hl 1 rfl) ?_
  refine lv_if_lt (tgt := 18) hx hb dX12_isOrder_1 (by decide) (fun c_1 => ?_) (fun c_1 => ?_)
  ·
    refine lv_iconst (v := 0) hx hb dX12_isOrder_18 (by decide) ?_
    exact ERz hx hb hr hlocks rfl rfl dX12_isOrder_19
  ·
    refine lv_iload_n hx hb dX12_isOrder_4 rfl (lv_at hl 1 rfl) ?_
    refine lv_aload_n hx hb dX12_isOrder_5 rfl (lv_at hl 0 rfl) ?_
    refine va_get (D := D) (ci := 12) (v := .ref (q 201)) (C := RX12) (T := TX12) (N := 36) hx hb hts iX12 hown hK hP 0 rfl rfl 0 (by decide) (hts _ qf_X12_7) (fun _ h => h) rfl dX12_isOrder_6 ?_
    refine lv_iconst (v := 4) hx hb dX12_isOrder_9 (by decide) ?_
    refine va_iald hx hb hK hP 1 1 rfl rfl (xin 4 5340 rfl (by decide) (by decide)) dX12_isOrder_10 ?_
    refine lv_topi (fun x_2 ex_2 => ?_)
    obtain rfl : x_2 = 0 := ex_2.trans (by decide +kernel)
    refine lv_icmp_ge (tgt := 18) hx hb dX12_isOrder_11 (by decide) (fun _ => ?_) (fun c => absurd (Int32.not_lt.mp c_1) c)
    refine lv_iconst (v := 0) hx hb dX12_isOrder_18 (by decide) ?_
    exact ERz hx hb hr hlocks rfl rfl dX12_isOrder_19
set_option maxHeartbeats 4000000 in
set_option maxRecDepth 100000 in
theorem m_areTwo (l : Launch) (D : va_G) (k : Nat → ClassId) (q : Nat → Nat) (x : Int32) (y : Int32) : RD l yX12_areTwo cX12_areTwo 3 (some .boolean) 1 D k [.ref (q 200), .int x, .int y] [((q 200), .inr (12, [.ref (q 201), .ref (q 202), .int 0, .long 0, .long 1, .ref (q 203), .ref (q 204), .ref (q 205), .ref (q 206), .ref (q 207), .int 0, .int 0, .int 0, .int 0, .int 0, .int 0, .int (-1), .int (-1), .int 0, .int 0, .int 0, .ref (q 208), .int 0, .int 0, .ref (q 209), .ref (q 210), .ref (q 211), .ref (q 212), .ref (q 213), .int 0, .int 0, .ref (q 214), .ref (q 215), .ref (q 216), .int 0, .int 0])), ((q 201), .inl (k 1, 5340, .inl at0))] 0 := by
  refine MR (by decide) (Nat.le_of_ble_eq_true rfl) (fun p e s m below meth c ls hx hb hml hr hlocks hts hown hKK hP hl => ?_)
  have hK := hKK.1
  have hl : lv_has ls 3 [(0, .ref (q 200)), (1, .int x), (2, .int y)] := hl
  refine lv_aload_n hx hb dX12_areTwo_0 rfl (lv_at hl 0 rfl) ?_
  refine lv_iload_n hx hb dX12_areTwo_1 rfl (lv_at hl 1 rfl) ?_
  refine CRV (As := [.int x]) (rest := []) hx hb hml hown hts hKK hP (m_isRock l D k q x) ci_X12_isRock qm_X12_243 ⟨Nat.le_of_ble_eq_true rfl, Nat.le_of_ble_eq_true rfl⟩ ⟨Nat.le_of_ble_eq_true rfl, Nat.le_of_ble_eq_true rfl⟩ 0 rfl rfl rfl hl.1 rfl (Nat.le_of_ble_eq_true rfl) dX12_areTwo_2 ?_
  refine lv_if_eq (tgt := 25) hx hb dX12_areTwo_5 (by decide) (fun _ => ?_) (fun c => absurd (by decide) c)
  refine lv_iconst (v := 0) hx hb dX12_areTwo_25 (by decide) ?_
  exact ERz hx hb hr hlocks rfl rfl dX12_areTwo_26
set_option maxHeartbeats 4000000 in
set_option maxRecDepth 100000 in
theorem m_isNews (l : Launch) (D : va_G) (k : Nat → ClassId) (q : Nat → Nat) (x : Int32) (y : Int32) : RD l yX12_isNews cX12_isNews 3 (some .boolean) 1 D k [.ref (q 200), .int x, .int y] [((q 200), .inr (12, [.ref (q 201), .ref (q 202), .int 0, .long 0, .long 1, .ref (q 203), .ref (q 204), .ref (q 205), .ref (q 206), .ref (q 207), .int 0, .int 0, .int 0, .int 0, .int 0, .int 0, .int (-1), .int (-1), .int 0, .int 0, .int 0, .ref (q 208), .int 0, .int 0, .ref (q 209), .ref (q 210), .ref (q 211), .ref (q 212), .ref (q 213), .int 0, .int 0, .ref (q 214), .ref (q 215), .ref (q 216), .int 0, .int 0])), ((q 201), .inl (k 1, 5340, .inl at0))] 0 := by
  refine MR (by decide) (Nat.le_of_ble_eq_true rfl) (fun p e s m below meth c ls hx hb hml hr hlocks hts hown hKK hP hl => ?_)
  have hK := hKK.1
  have hl : lv_has ls 3 [(0, .ref (q 200)), (1, .int x), (2, .int y)] := hl
  refine lv_aload_n hx hb dX12_isNews_0 rfl (lv_at hl 0 rfl) ?_
  refine lv_iload_n hx hb dX12_isNews_1 rfl (lv_at hl 1 rfl) ?_
  refine CRV (As := [.int x]) (rest := []) hx hb hml hown hts hKK hP (m_isRock l D k q x) ci_X12_isRock qm_X12_243 ⟨Nat.le_of_ble_eq_true rfl, Nat.le_of_ble_eq_true rfl⟩ ⟨Nat.le_of_ble_eq_true rfl, Nat.le_of_ble_eq_true rfl⟩ 0 rfl rfl rfl hl.1 rfl (Nat.le_of_ble_eq_true rfl) dX12_isNews_2 ?_
  refine lv_if_eq (tgt := 19) hx hb dX12_isNews_5 (by decide) (fun _ => ?_) (fun c => absurd (by decide) c)
  refine lv_iconst (v := 0) hx hb dX12_isNews_19 (by decide) ?_
  exact ERz hx hb hr hlocks rfl rfl dX12_isNews_20
set_option maxHeartbeats 4000000 in
set_option maxRecDepth 100000 in
theorem m_areOrders (l : Launch) (D : va_G) (k : Nat → ClassId) (q : Nat → Nat) (x : Int32) (y : Int32) : RD l yX12_areOrders cX12_areOrders 3 (some .boolean) 1 D k [.ref (q 200), .int x, .int y] [((q 200), .inr (12, [.ref (q 201), .ref (q 202), .int 0, .long 0, .long 1, .ref (q 203), .ref (q 204), .ref (q 205), .ref (q 206), .ref (q 207), .int 0, .int 0, .int 0, .int 0, .int 0, .int 0, .int (-1), .int (-1), .int 0, .int 0, .int 0, .ref (q 208), .int 0, .int 0, .ref (q 209), .ref (q 210), .ref (q 211), .ref (q 212), .ref (q 213), .int 0, .int 0, .ref (q 214), .ref (q 215), .ref (q 216), .int 0, .int 0])), ((q 201), .inl (k 1, 5340, .inl at0))] 0 := by
  refine MR (by decide) (Nat.le_of_ble_eq_true rfl) (fun p e s m below meth c ls hx hb hml hr hlocks hts hown hKK hP hl => ?_)
  have hK := hKK.1
  have hl : lv_has ls 3 [(0, .ref (q 200)), (1, .int x), (2, .int y)] := hl
  refine lv_aload_n hx hb dX12_areOrders_0 rfl (lv_at hl 0 rfl) ?_
  refine lv_iload_n hx hb dX12_areOrders_1 rfl (lv_at hl 1 rfl) ?_
  refine CRV (As := [.int x]) (rest := []) hx hb hml hown hts hKK hP (m_isOrder l D k q x) ci_X12_isOrder qm_X12_324 ⟨Nat.le_of_ble_eq_true rfl, Nat.le_of_ble_eq_true rfl⟩ ⟨Nat.le_of_ble_eq_true rfl, Nat.le_of_ble_eq_true rfl⟩ 0 rfl rfl rfl hl.1 rfl (Nat.le_of_ble_eq_true rfl) dX12_areOrders_2 ?_
  refine lv_if_eq (tgt := 25) hx hb dX12_areOrders_5 (by decide) (fun _ => ?_) (fun c => absurd (by decide) c)
  refine lv_iconst (v := 0) hx hb dX12_areOrders_25 (by decide) ?_
  exact ERz hx hb hr hlocks rfl rfl dX12_areOrders_26
set_option maxHeartbeats 4000000 in
set_option maxRecDepth 100000 in
theorem m_isSent (l : Launch) (D : va_G) (k : Nat → ClassId) (q : Nat → Nat) (x : Int32) (y : Int32) (w0 : Int32) : RD l yX12_isSent cX12_isSent 4 (some .boolean) 1 D k [.ref (q 200), .int x, .int y, .int w0] [((q 200), .inr (12, [.ref (q 201), .ref (q 202), .int 0, .long 0, .long 1, .ref (q 203), .ref (q 204), .ref (q 205), .ref (q 206), .ref (q 207), .int 0, .int 0, .int 0, .int 0, .int 0, .int 0, .int (-1), .int (-1), .int 0, .int 0, .int 0, .ref (q 208), .int 0, .int 0, .ref (q 209), .ref (q 210), .ref (q 211), .ref (q 212), .ref (q 213), .int 0, .int 0, .ref (q 214), .ref (q 215), .ref (q 216), .int 0, .int 0])), ((q 201), .inl (k 1, 5340, .inl at0))] 0 := by
  refine MR (by decide) (Nat.le_of_ble_eq_true rfl) (fun p e s m below meth c ls hx hb hml hr hlocks hts hown hKK hP hl => ?_)
  have hK := hKK.1
  have hl : lv_has ls 4 [(0, .ref (q 200)), (1, .int x), (2, .int y), (3, .int w0)] := hl
  refine lv_aload_n hx hb dX12_isSent_0 rfl (lv_at hl 0 rfl) ?_
  refine lv_iload_n hx hb dX12_isSent_1 rfl (lv_at hl 1 rfl) ?_
  refine CRV (As := [.int x]) (rest := []) hx hb hml hown hts hKK hP (m_isRock l D k q x) ci_X12_isRock qm_X12_243 ⟨Nat.le_of_ble_eq_true rfl, Nat.le_of_ble_eq_true rfl⟩ ⟨Nat.le_of_ble_eq_true rfl, Nat.le_of_ble_eq_true rfl⟩ 0 rfl rfl rfl hl.1 rfl (Nat.le_of_ble_eq_true rfl) dX12_isSent_2 ?_
  refine lv_if_eq (tgt := 27) hx hb dX12_isSent_5 (by decide) (fun _ => ?_) (fun c => absurd (by decide) c)
  refine lv_iconst (v := 0) hx hb dX12_isSent_27 (by decide) ?_
  exact ERz hx hb hr hlocks rfl rfl dX12_isSent_28
set_option maxHeartbeats 4000000 in
set_option maxRecDepth 100000 in
theorem m_refuse (l : Launch) (D : va_G) (k : Nat → ClassId) (h0 : Nat) (fs : List Value) (hn : 2 < fs.length) (x : Int32) : WD (σ := Unit) l yX12_refuse cX12_refuse 2 (some .int) 0 0 0 D k [.ref h0, .int x] [(h0, .inr (12, fs))] (fun _ => some (.int (-1))) (fun _ => True) (fun _ => []) := by
  refine MW (by decide) (Nat.le_of_ble_eq_true rfl) (fun p e s m below meth c ls A hx hb hml hr hlocks hin hts hown hKK hP hD hS hA hl => ?_)
  have hK := hKK.1
  have hl : lv_has ls 2 [(0, .ref h0), (1, .int x)] := hl
  refine lv_aload_n hx hb dX12_refuse_0 rfl (lv_at hl 0 rfl) ?_
  refine lv_iload_n hx hb dX12_refuse_1 rfl (lv_at hl 1 rfl) ?_
  refine va_put (D := D) (ci := 12) (v := .int x) (ty := .int) (C := RX12) (T := TX12) (N := 36) hx hb hts iX12 tyX12 tyX12_ok nmX12 hown hK hP hD hS 0 rfl rfl 2 (by decide) (hts _ qf_X12_75) (fun _ h => h) rfl (by decide +kernel) rfl rfl hn dX12_refuse_2 (fun H locs hP hD hS => ?_)
  have hP : va_P D vwCl [(h0, .inr (12, (fs.set 2 (.int x))))] H := hP
  have hD : va_D A [(h0, .inr (12, (fs.set 2 (.int x))))] := hD
  refine lv_iconst (v := (-1)) hx hb dX12_refuse_5 (by decide) ?_
  exact EWi hx hb hr hlocks hS () rfl trivial nil_P nil_D dX12_refuse_6
set_option maxHeartbeats 4000000 in
set_option maxRecDepth 100000 in
theorem m_gives (l : Launch) (D : va_G) (k : Nat → ClassId) (h0 : Nat) (fs : List Value) (hn : 2 < fs.length) (x : Int32) : WD (σ := Unit) l yX12_gives cX12_gives 2 (some .int) 0 0 0 D k [.ref h0, .int x] [(h0, .inr (12, fs))] (fun _ => some (.int x)) (fun _ => True) (fun _ => []) := by
  refine MW (by decide) (Nat.le_of_ble_eq_true rfl) (fun p e s m below meth c ls A hx hb hml hr hlocks hin hts hown hKK hP hD hS hA hl => ?_)
  have hK := hKK.1
  have hl : lv_has ls 2 [(0, .ref h0), (1, .int x)] := hl
  refine lv_aload_n hx hb dX12_gives_0 rfl (lv_at hl 0 rfl) ?_
  refine lv_iconst (v := 0) hx hb dX12_gives_1 (by decide) ?_
  refine va_put (D := D) (ci := 12) (v := .int 0) (ty := .int) (C := RX12) (T := TX12) (N := 36) hx hb hts iX12 tyX12 tyX12_ok nmX12 hown hK hP hD hS 0 rfl rfl 2 (by decide) (hts _ qf_X12_75) (fun _ h => h) rfl (by decide +kernel) rfl rfl hn dX12_gives_2 (fun H locs hP hD hS => ?_)
  have hP : va_P D vwCl [(h0, .inr (12, (fs.set 2 (.int 0))))] H := hP
  have hD : va_D A [(h0, .inr (12, (fs.set 2 (.int 0))))] := hD
  refine lv_iload_n hx hb dX12_gives_5 rfl (lv_at hl 1 rfl) ?_
  exact EWi hx hb hr hlocks hS () rfl trivial nil_P nil_D dX12_gives_6
set_option maxHeartbeats 4000000 in
set_option maxRecDepth 100000 in
theorem m_is0 (l : Launch) (D : va_G) (k : Nat → ClassId) (h0 : Nat) (fs : List Value) (hn : 2 < fs.length) : WD (σ := Unit) l yX12_is cX12_is 2 (some .boolean) 0 0 0 D k [.ref h0, .int 0] [(h0, .inr (12, fs))] (fun _ => some (.int 1)) (fun _ => True) (fun _ => []) := by
  refine MW (by decide) (Nat.le_of_ble_eq_true rfl) (fun p e s m below meth c ls A hx hb hml hr hlocks hin hts hown hKK hP hD hS hA hl => ?_)
  have hK := hKK.1
  have hl : lv_has ls 2 [(0, .ref h0), (1, .int 0)] := hl
  refine lv_aload_n hx hb dX12_is_0 rfl (lv_at hl 0 rfl) ?_
  refine lv_iload_n hx hb dX12_is_1 rfl (lv_at hl 1 rfl) ?_
  refine va_put (D := D) (ci := 12) (v := .int 0) (ty := .int) (C := RX12) (T := TX12) (N := 36) hx hb hts iX12 tyX12 tyX12_ok nmX12 hown hK hP hD hS 0 rfl rfl 2 (by decide) (hts _ qf_X12_75) (fun _ h => h) rfl (by decide +kernel) rfl rfl hn dX12_is_2 (fun H locs hP hD hS => ?_)
  have hP : va_P D vwCl [(h0, .inr (12, (fs.set 2 (.int 0))))] H := hP
  have hD : va_D A [(h0, .inr (12, (fs.set 2 (.int 0))))] := hD
  refine lv_iload_n hx hb dX12_is_5 rfl (lv_at hl 1 rfl) ?_
  refine lv_if_ne (tgt := 13) hx hb dX12_is_6 (by decide) (fun c => absurd (by decide) c) (fun _ => ?_)
  refine lv_iconst (v := 1) hx hb dX12_is_9 (by decide) ?_
  refine lv_goto (tgt := 14) hx hb dX12_is_10 (by decide) ?_
  exact EWz hx hb hr hlocks hS () rfl rfl trivial nil_P nil_D dX12_is_14
set_option maxHeartbeats 4000000 in
set_option maxRecDepth 100000 in
theorem m_is1 (l : Launch) (D : va_G) (k : Nat → ClassId) (h0 : Nat) (fs : List Value) (hn : 2 < fs.length) (x : Int32) (hx0 : ¬ x = 0) : WD (σ := Unit) l yX12_is cX12_is 2 (some .boolean) 0 0 0 D k [.ref h0, .int x] [(h0, .inr (12, fs))] (fun _ => some (.int 0)) (fun _ => True) (fun _ => []) := by
  refine MW (by decide) (Nat.le_of_ble_eq_true rfl) (fun p e s m below meth c ls A hx hb hml hr hlocks hin hts hown hKK hP hD hS hA hl => ?_)
  have hK := hKK.1
  have hl : lv_has ls 2 [(0, .ref h0), (1, .int x)] := hl
  refine lv_aload_n hx hb dX12_is_0 rfl (lv_at hl 0 rfl) ?_
  refine lv_iload_n hx hb dX12_is_1 rfl (lv_at hl 1 rfl) ?_
  refine va_put (D := D) (ci := 12) (v := .int x) (ty := .int) (C := RX12) (T := TX12) (N := 36) hx hb hts iX12 tyX12 tyX12_ok nmX12 hown hK hP hD hS 0 rfl rfl 2 (by decide) (hts _ qf_X12_75) (fun _ h => h) rfl (by decide +kernel) rfl rfl hn dX12_is_2 (fun H locs hP hD hS => ?_)
  have hP : va_P D vwCl [(h0, .inr (12, (fs.set 2 (.int x))))] H := hP
  have hD : va_D A [(h0, .inr (12, (fs.set 2 (.int x))))] := hD
  refine lv_iload_n hx hb dX12_is_5 rfl (lv_at hl 1 rfl) ?_
  refine lv_if_ne (tgt := 13) hx hb dX12_is_6 (by decide) (fun _ => ?_) (fun c => absurd c hx0)
  refine lv_iconst (v := 0) hx hb dX12_is_13 (by decide) ?_
  exact EWz hx hb hr hlocks hS () rfl rfl trivial nil_P nil_D dX12_is_14
set_option maxHeartbeats 4000000 in
set_option maxRecDepth 100000 in
theorem m_orNone (l : Launch) (D : va_G) (k : Nat → ClassId) (h0 : Nat) (fs : List Value) (hn : 2 < fs.length) : WD (σ := Unit) l yX12_orNone cX12_orNone 2 (some .int) 1 0 0 D k [.ref h0, .int (-1)] [(h0, .inr (12, fs))] (fun _ => some (.int (-1))) (fun _ => True) (fun _ => []) := by
  refine MW (by decide) (Nat.le_of_ble_eq_true rfl) (fun p e s m below meth c ls A hx hb hml hr hlocks hin hts hown hKK hP hD hS hA hl => ?_)
  have hK := hKK.1
  have hl : lv_has ls 2 [(0, .ref h0), (1, .int (-1))] := hl
  refine lv_iload_n hx hb dX12_orNone_0 rfl (lv_at hl 1 rfl) ?_
  refine lv_iconst (v := (-1)) hx hb dX12_orNone_1 (by decide) ?_
  refine lv_icmp_ne (tgt := 14) hx hb dX12_orNone_2 (by decide) (fun c => absurd (by decide) c) (fun _ => ?_)
  refine lv_aload_n hx hb dX12_orNone_5 rfl (lv_at hl 0 rfl) ?_
  refine lv_bipush (v := 6) hx hb dX12_orNone_6 (by decide) ?_
  refine CWV (As := [.int 6]) (rest := []) (wc := [(h0, .inr (12, fs))]) (wr := []) hx hb hml hown hts hKK hP hD hS hA (m_refuse l D k h0 fs hn 6) ci_X12_refuse qm_X12_81 ⟨Nat.le_of_ble_eq_true rfl, Nat.le_of_ble_eq_true rfl⟩ ⟨Nat.le_of_ble_eq_true rfl, Nat.le_of_ble_eq_true rfl⟩ [0] [] rfl rfl rfl rfl rfl (by decide) 0 rfl rfl rfl hl.1 rfl (Nat.le_of_ble_eq_true rfl) dX12_orNone_8 (fun u_1 H locs hφ hP hD hS => ?_)
  have hP : va_P D vwCl [] H := hP
  have hD : va_D A [] := hD
  refine W.eq (g2 := F0 m 11 ls [.int (-1)]) rfl ?_
  refine lv_goto (tgt := 19) hx hb dX12_orNone_11 (by decide) ?_
  exact EWi hx hb hr hlocks hS () rfl trivial nil_P nil_D dX12_orNone_19
set_option maxHeartbeats 4000000 in
set_option maxRecDepth 100000 in
theorem m_laysOrders (l : Launch) (D : va_G) (k : Nat → ClassId) (q : Nat → Nat) : WD (σ := Unit) l yX12_laysOrders cX12_laysOrders 2 none 0 0 0 D k [.ref (q 200)] [((q 200), .inr (12, [.ref (q 201), .ref (q 202), .int 0, .long 0, .long 1, .ref (q 203), .ref (q 204), .ref (q 205), .ref (q 206), .ref (q 207), .int 0, .int 0, .int 0, .int 0, .int 0, .int 0, .int (-1), .int (-1), .int 0, .int 0, .int 0, .ref (q 208), .int 0, .int 0, .ref (q 209), .ref (q 210), .ref (q 211), .ref (q 212), .ref (q 213), .int 0, .int 0, .ref (q 214), .ref (q 215), .ref (q 216), .int 0, .int 0])), ((q 201), .inl (k 1, 5340, .inl at0))] (fun _ => none) (fun _ => True) (fun _ => [((q 200), .inr (12, [.ref (q 201), .ref (q 202), .int 0, .long 0, .long 1, .ref (q 203), .ref (q 204), .ref (q 205), .ref (q 206), .ref (q 207), .int 0, .int 0, .int 0, .int 0, .int 0, .int 0, .int (-1), .int (-1), .int 0, .int 0, .int 0, .ref (q 208), .int 0, .int 0, .ref (q 209), .ref (q 210), .ref (q 211), .ref (q 212), .ref (q 213), .int 0, .int 0, .ref (q 214), .ref (q 215), .ref (q 216), .int 0, .int 0])), ((q 201), .inl (k 1, 5340, .inl at0))]) := by
  refine MW (by decide) (Nat.le_of_ble_eq_true rfl) (fun p e s m below meth c ls A hx hb hml hr hlocks hin hts hown hKK hP hD hS hA hl => ?_)
  have hK := hKK.1
  have hl : lv_has ls 2 [(0, .ref (q 200))] := hl
  refine lv_iconst (v := 0) hx hb dX12_laysOrders_0 (by decide) ?_
  refine lv_istore_n (lv' := [(1, .int 0), (0, .ref (q 200))]) hx hb dX12_laysOrders_1 rfl hl (by decide) rfl (fun ls hl => ?_)
  refine lv_iload_n hx hb dX12_laysOrders_2 rfl (lv_at hl 0 rfl) ?_
  refine lv_aload_n hx hb dX12_laysOrders_3 rfl (lv_at hl 1 rfl) ?_
  refine va_get (D := D) (ci := 12) (v := .ref (q 201)) (C := RX12) (T := TX12) (N := 36) hx hb hts iX12 hown hK hP 0 rfl rfl 0 (by decide) (hts _ qf_X12_7) (fun _ h => h) rfl dX12_laysOrders_4 ?_
  refine lv_iconst (v := 4) hx hb dX12_laysOrders_7 (by decide) ?_
  refine va_iald hx hb hK hP 1 1 rfl rfl (xin 4 5340 rfl (by decide) (by decide)) dX12_laysOrders_8 ?_
  refine lv_topi (fun x_1 ex_1 => ?_)
  obtain rfl : x_1 = 0 := ex_1.trans (by decide +kernel)
  refine lv_icmp_ge (tgt := 23) hx hb dX12_laysOrders_9 (by decide) (fun _ => ?_) (fun c => absurd (by decide) c)
  exact EWv hx hb hr hlocks hS () rfl trivial (hP.sub (ws' := [((q 200), .inr (12, [.ref (q 201), .ref (q 202), .int 0, .long 0, .long 1, .ref (q 203), .ref (q 204), .ref (q 205), .ref (q 206), .ref (q 207), .int 0, .int 0, .int 0, .int 0, .int 0, .int 0, .int (-1), .int (-1), .int 0, .int 0, .int 0, .ref (q 208), .int 0, .int 0, .ref (q 209), .ref (q 210), .ref (q 211), .ref (q 212), .ref (q 213), .int 0, .int 0, .ref (q 214), .ref (q 215), .ref (q 216), .int 0, .int 0])), ((q 201), .inl (k 1, 5340, .inl at0))]) [0, 1] rfl) (hD.sub (ws' := [((q 200), .inr (12, [.ref (q 201), .ref (q 202), .int 0, .long 0, .long 1, .ref (q 203), .ref (q 204), .ref (q 205), .ref (q 206), .ref (q 207), .int 0, .int 0, .int 0, .int 0, .int 0, .int 0, .int (-1), .int (-1), .int 0, .int 0, .int 0, .ref (q 208), .int 0, .int 0, .ref (q 209), .ref (q 210), .ref (q 211), .ref (q 212), .ref (q 213), .int 0, .int 0, .ref (q 214), .ref (q 215), .ref (q 216), .int 0, .int 0])), ((q 201), .inl (k 1, 5340, .inl at0))]) [0, 1] rfl rfl) dX12_laysOrders_23
set_option maxHeartbeats 4000000 in
set_option maxRecDepth 100000 in
theorem r_rock (l : Launch) (D : va_G) (k : Nat → ClassId) (q : Nat → Nat) (a : Int32) (b : Int32) : WD (σ := Unit) l yX12_rock cX12_rock 3 (some .int) 8 0 0 D k [.ref (q 200), .int a, .int b] [((q 200), .inr (12, [.ref (q 201), .ref (q 202), .int 0, .long 0, .long 1, .ref (q 203), .ref (q 204), .ref (q 205), .ref (q 206), .ref (q 207), .int 0, .int 0, .int 0, .int 0, .int 0, .int 0, .int (-1), .int (-1), .int 0, .int 0, .int 0, .ref (q 208), .int 0, .int 0, .ref (q 209), .ref (q 210), .ref (q 211), .ref (q 212), .ref (q 213), .int 0, .int 0, .ref (q 214), .ref (q 215), .ref (q 216), .int 0, .int 0])), ((q 201), .inl (k 1, 5340, .inl at0))] (fun _ => some (.int (-1))) (fun _ => True) (fun _ => []) := by
  refine MW (by decide) (Nat.le_of_ble_eq_true rfl) (fun p e s m below meth c ls A hx hb hml hr hlocks hin hts hown hKK hP hD hS hA hl => ?_)
  have hK := hKK.1
  have hl : lv_has ls 3 [(0, .ref (q 200)), (1, .int a), (2, .int b)] := hl
  refine lv_aload_n hx hb dX12_rock_0 rfl (lv_at hl 0 rfl) ?_
  refine lv_iload_n hx hb dX12_rock_1 rfl (lv_at hl 1 rfl) ?_
  refine CRV (As := [.int a]) (rest := []) hx hb hml hown hts hKK hP (m_isRock l D k q a) ci_X12_isRock qm_X12_243 ⟨Nat.le_of_ble_eq_true rfl, Nat.le_of_ble_eq_true rfl⟩ ⟨Nat.le_of_ble_eq_true rfl, Nat.le_of_ble_eq_true rfl⟩ 0 rfl rfl rfl hl.1 rfl (Nat.le_of_ble_eq_true rfl) dX12_rock_2 ?_
  refine lv_if_eq (tgt := 35) hx hb dX12_rock_5 (by decide) (fun _ => ?_) (fun c => absurd (by decide) c)
  refine lv_aload_n hx hb dX12_rock_35 rfl (lv_at hl 0 rfl) ?_
  refine lv_iconst (v := 1) hx hb dX12_rock_36 (by decide) ?_
  refine CWV (As := [.int 1]) (rest := []) (wc := [((q 200), .inr (12, [.ref (q 201), .ref (q 202), .int 0, .long 0, .long 1, .ref (q 203), .ref (q 204), .ref (q 205), .ref (q 206), .ref (q 207), .int 0, .int 0, .int 0, .int 0, .int 0, .int 0, .int (-1), .int (-1), .int 0, .int 0, .int 0, .ref (q 208), .int 0, .int 0, .ref (q 209), .ref (q 210), .ref (q 211), .ref (q 212), .ref (q 213), .int 0, .int 0, .ref (q 214), .ref (q 215), .ref (q 216), .int 0, .int 0]))]) (wr := [((q 201), .inl (k 1, 5340, .inl at0))]) hx hb hml hown hts hKK hP hD hS hA (m_refuse l D k (q 200) [.ref (q 201), .ref (q 202), .int 0, .long 0, .long 1, .ref (q 203), .ref (q 204), .ref (q 205), .ref (q 206), .ref (q 207), .int 0, .int 0, .int 0, .int 0, .int 0, .int 0, .int (-1), .int (-1), .int 0, .int 0, .int 0, .ref (q 208), .int 0, .int 0, .ref (q 209), .ref (q 210), .ref (q 211), .ref (q 212), .ref (q 213), .int 0, .int 0, .ref (q 214), .ref (q 215), .ref (q 216), .int 0, .int 0] (Nat.le_of_ble_eq_true rfl) 1) ci_X12_refuse qm_X12_81 ⟨Nat.le_of_ble_eq_true rfl, Nat.le_of_ble_eq_true rfl⟩ ⟨Nat.le_of_ble_eq_true rfl, Nat.le_of_ble_eq_true rfl⟩ [0] [1] rfl rfl rfl rfl rfl (by decide) 0 rfl rfl rfl hl.1 rfl (Nat.le_of_ble_eq_true rfl) dX12_rock_37 (fun u_1 H locs hφ hP hD hS => ?_)
  have hP : va_P D vwCl [((q 201), .inl (k 1, 5340, .inl at0))] H := hP
  have hD : va_D A [((q 201), .inl (k 1, 5340, .inl at0))] := hD
  refine W.eq (g2 := F0 m 40 ls [.int (-1)]) rfl ?_
  exact EWi hx hb hr hlocks hS () rfl trivial nil_P nil_D dX12_rock_40
set_option maxHeartbeats 4000000 in
set_option maxRecDepth 100000 in
theorem r_ice (l : Launch) (D : va_G) (k : Nat → ClassId) (q : Nat → Nat) (a : Int32) (b : Int32) : WD (σ := Unit) l yX12_ice cX12_ice 3 (some .int) 8 0 0 D k [.ref (q 200), .int a, .int b] [((q 200), .inr (12, [.ref (q 201), .ref (q 202), .int 0, .long 0, .long 1, .ref (q 203), .ref (q 204), .ref (q 205), .ref (q 206), .ref (q 207), .int 0, .int 0, .int 0, .int 0, .int 0, .int 0, .int (-1), .int (-1), .int 0, .int 0, .int 0, .ref (q 208), .int 0, .int 0, .ref (q 209), .ref (q 210), .ref (q 211), .ref (q 212), .ref (q 213), .int 0, .int 0, .ref (q 214), .ref (q 215), .ref (q 216), .int 0, .int 0])), ((q 201), .inl (k 1, 5340, .inl at0))] (fun _ => some (.int (-1))) (fun _ => True) (fun _ => []) := by
  refine MW (by decide) (Nat.le_of_ble_eq_true rfl) (fun p e s m below meth c ls A hx hb hml hr hlocks hin hts hown hKK hP hD hS hA hl => ?_)
  have hK := hKK.1
  have hl : lv_has ls 3 [(0, .ref (q 200)), (1, .int a), (2, .int b)] := hl
  refine lv_iload_n hx hb dX12_ice_0 rfl (lv_at hl 1 rfl) ?_
  refine lv_if_lt (tgt := 43) hx hb dX12_ice_1 (by decide) (fun c_1 => ?_) (fun c_1 => ?_)
  ·
    refine lv_aload_n hx hb dX12_ice_43 rfl (lv_at hl 0 rfl) ?_
    refine lv_iconst (v := 1) hx hb dX12_ice_44 (by decide) ?_
    refine CWV (As := [.int 1]) (rest := []) (wc := [((q 200), .inr (12, [.ref (q 201), .ref (q 202), .int 0, .long 0, .long 1, .ref (q 203), .ref (q 204), .ref (q 205), .ref (q 206), .ref (q 207), .int 0, .int 0, .int 0, .int 0, .int 0, .int 0, .int (-1), .int (-1), .int 0, .int 0, .int 0, .ref (q 208), .int 0, .int 0, .ref (q 209), .ref (q 210), .ref (q 211), .ref (q 212), .ref (q 213), .int 0, .int 0, .ref (q 214), .ref (q 215), .ref (q 216), .int 0, .int 0]))]) (wr := [((q 201), .inl (k 1, 5340, .inl at0))]) hx hb hml hown hts hKK hP hD hS hA (m_refuse l D k (q 200) [.ref (q 201), .ref (q 202), .int 0, .long 0, .long 1, .ref (q 203), .ref (q 204), .ref (q 205), .ref (q 206), .ref (q 207), .int 0, .int 0, .int 0, .int 0, .int 0, .int 0, .int (-1), .int (-1), .int 0, .int 0, .int 0, .ref (q 208), .int 0, .int 0, .ref (q 209), .ref (q 210), .ref (q 211), .ref (q 212), .ref (q 213), .int 0, .int 0, .ref (q 214), .ref (q 215), .ref (q 216), .int 0, .int 0] (Nat.le_of_ble_eq_true rfl) 1) ci_X12_refuse qm_X12_81 ⟨Nat.le_of_ble_eq_true rfl, Nat.le_of_ble_eq_true rfl⟩ ⟨Nat.le_of_ble_eq_true rfl, Nat.le_of_ble_eq_true rfl⟩ [0] [1] rfl rfl rfl rfl rfl (by decide) 0 rfl rfl rfl hl.1 rfl (Nat.le_of_ble_eq_true rfl) dX12_ice_45 (fun u_2 H locs hφ hP hD hS => ?_)
    have hP : va_P D vwCl [((q 201), .inl (k 1, 5340, .inl at0))] H := hP
    have hD : va_D A [((q 201), .inl (k 1, 5340, .inl at0))] := hD
    refine W.eq (g2 := F0 m 48 ls [.int (-1)]) rfl ?_
    exact EWi hx hb hr hlocks hS () rfl trivial nil_P nil_D dX12_ice_48
  ·
    refine lv_iload_n hx hb dX12_ice_4 rfl (lv_at hl 1 rfl) ?_
    refine lv_aload_n hx hb dX12_ice_5 rfl (lv_at hl 0 rfl) ?_
    refine va_get (D := D) (ci := 12) (v := .ref (q 201)) (C := RX12) (T := TX12) (N := 36) hx hb hts iX12 hown hK hP 0 rfl rfl 0 (by decide) (hts _ qf_X12_7) (fun _ h => h) rfl dX12_ice_6 ?_
    refine lv_iconst (v := 1) hx hb dX12_ice_9 (by decide) ?_
    refine va_iald hx hb hK hP 1 1 rfl rfl (xin 1 5340 rfl (by decide) (by decide)) dX12_ice_10 ?_
    refine lv_topi (fun x_3 ex_3 => ?_)
    obtain rfl : x_3 = 0 := ex_3.trans (by decide +kernel)
    refine lv_icmp_ge (tgt := 43) hx hb dX12_ice_11 (by decide) (fun _ => ?_) (fun c => absurd (Int32.not_lt.mp c_1) c)
    refine lv_aload_n hx hb dX12_ice_43 rfl (lv_at hl 0 rfl) ?_
    refine lv_iconst (v := 1) hx hb dX12_ice_44 (by decide) ?_
    refine CWV (As := [.int 1]) (rest := []) (wc := [((q 200), .inr (12, [.ref (q 201), .ref (q 202), .int 0, .long 0, .long 1, .ref (q 203), .ref (q 204), .ref (q 205), .ref (q 206), .ref (q 207), .int 0, .int 0, .int 0, .int 0, .int 0, .int 0, .int (-1), .int (-1), .int 0, .int 0, .int 0, .ref (q 208), .int 0, .int 0, .ref (q 209), .ref (q 210), .ref (q 211), .ref (q 212), .ref (q 213), .int 0, .int 0, .ref (q 214), .ref (q 215), .ref (q 216), .int 0, .int 0]))]) (wr := [((q 201), .inl (k 1, 5340, .inl at0))]) hx hb hml hown hts hKK hP hD hS hA (m_refuse l D k (q 200) [.ref (q 201), .ref (q 202), .int 0, .long 0, .long 1, .ref (q 203), .ref (q 204), .ref (q 205), .ref (q 206), .ref (q 207), .int 0, .int 0, .int 0, .int 0, .int 0, .int 0, .int (-1), .int (-1), .int 0, .int 0, .int 0, .ref (q 208), .int 0, .int 0, .ref (q 209), .ref (q 210), .ref (q 211), .ref (q 212), .ref (q 213), .int 0, .int 0, .ref (q 214), .ref (q 215), .ref (q 216), .int 0, .int 0] (Nat.le_of_ble_eq_true rfl) 1) ci_X12_refuse qm_X12_81 ⟨Nat.le_of_ble_eq_true rfl, Nat.le_of_ble_eq_true rfl⟩ ⟨Nat.le_of_ble_eq_true rfl, Nat.le_of_ble_eq_true rfl⟩ [0] [1] rfl rfl rfl rfl rfl (by decide) 0 rfl rfl rfl hl.1 rfl (Nat.le_of_ble_eq_true rfl) dX12_ice_45 (fun u_4 H locs hφ hP hD hS => ?_)
    have hP : va_P D vwCl [((q 201), .inl (k 1, 5340, .inl at0))] H := hP
    have hD : va_D A [((q 201), .inl (k 1, 5340, .inl at0))] := hD
    refine W.eq (g2 := F0 m 48 ls [.int (-1)]) rfl ?_
    exact EWi hx hb hr hlocks hS () rfl trivial nil_P nil_D dX12_ice_48
set_option maxHeartbeats 4000000 in
set_option maxRecDepth 100000 in
theorem r_direction (l : Launch) (D : va_G) (k : Nat → ClassId) (q : Nat → Nat) (a : Int32) (b : Int32) : WD (σ := Unit) l yX12_direction cX12_direction 3 (some .int) 8 0 0 D k [.ref (q 200), .int a, .int b] [((q 200), .inr (12, [.ref (q 201), .ref (q 202), .int 0, .long 0, .long 1, .ref (q 203), .ref (q 204), .ref (q 205), .ref (q 206), .ref (q 207), .int 0, .int 0, .int 0, .int 0, .int 0, .int 0, .int (-1), .int (-1), .int 0, .int 0, .int 0, .ref (q 208), .int 0, .int 0, .ref (q 209), .ref (q 210), .ref (q 211), .ref (q 212), .ref (q 213), .int 0, .int 0, .ref (q 214), .ref (q 215), .ref (q 216), .int 0, .int 0])), ((q 201), .inl (k 1, 5340, .inl at0))] (fun _ => some (.int (-1))) (fun _ => True) (fun _ => []) := by
  refine MW (by decide) (Nat.le_of_ble_eq_true rfl) (fun p e s m below meth c ls A hx hb hml hr hlocks hin hts hown hKK hP hD hS hA hl => ?_)
  have hK := hKK.1
  have hl : lv_has ls 3 [(0, .ref (q 200)), (1, .int a), (2, .int b)] := hl
  refine lv_aload_n hx hb dX12_direction_0 rfl (lv_at hl 0 rfl) ?_
  refine lv_iload_n hx hb dX12_direction_1 rfl (lv_at hl 1 rfl) ?_
  refine CRV (As := [.int a]) (rest := []) hx hb hml hown hts hKK hP (m_isRock l D k q a) ci_X12_isRock qm_X12_243 ⟨Nat.le_of_ble_eq_true rfl, Nat.le_of_ble_eq_true rfl⟩ ⟨Nat.le_of_ble_eq_true rfl, Nat.le_of_ble_eq_true rfl⟩ 0 rfl rfl rfl hl.1 rfl (Nat.le_of_ble_eq_true rfl) dX12_direction_2 ?_
  refine lv_if_eq (tgt := 28) hx hb dX12_direction_5 (by decide) (fun _ => ?_) (fun c => absurd (by decide) c)
  refine lv_aload_n hx hb dX12_direction_28 rfl (lv_at hl 0 rfl) ?_
  refine lv_iconst (v := 1) hx hb dX12_direction_29 (by decide) ?_
  refine CWV (As := [.int 1]) (rest := []) (wc := [((q 200), .inr (12, [.ref (q 201), .ref (q 202), .int 0, .long 0, .long 1, .ref (q 203), .ref (q 204), .ref (q 205), .ref (q 206), .ref (q 207), .int 0, .int 0, .int 0, .int 0, .int 0, .int 0, .int (-1), .int (-1), .int 0, .int 0, .int 0, .ref (q 208), .int 0, .int 0, .ref (q 209), .ref (q 210), .ref (q 211), .ref (q 212), .ref (q 213), .int 0, .int 0, .ref (q 214), .ref (q 215), .ref (q 216), .int 0, .int 0]))]) (wr := [((q 201), .inl (k 1, 5340, .inl at0))]) hx hb hml hown hts hKK hP hD hS hA (m_refuse l D k (q 200) [.ref (q 201), .ref (q 202), .int 0, .long 0, .long 1, .ref (q 203), .ref (q 204), .ref (q 205), .ref (q 206), .ref (q 207), .int 0, .int 0, .int 0, .int 0, .int 0, .int 0, .int (-1), .int (-1), .int 0, .int 0, .int 0, .ref (q 208), .int 0, .int 0, .ref (q 209), .ref (q 210), .ref (q 211), .ref (q 212), .ref (q 213), .int 0, .int 0, .ref (q 214), .ref (q 215), .ref (q 216), .int 0, .int 0] (Nat.le_of_ble_eq_true rfl) 1) ci_X12_refuse qm_X12_81 ⟨Nat.le_of_ble_eq_true rfl, Nat.le_of_ble_eq_true rfl⟩ ⟨Nat.le_of_ble_eq_true rfl, Nat.le_of_ble_eq_true rfl⟩ [0] [1] rfl rfl rfl rfl rfl (by decide) 0 rfl rfl rfl hl.1 rfl (Nat.le_of_ble_eq_true rfl) dX12_direction_30 (fun u_1 H locs hφ hP hD hS => ?_)
  have hP : va_P D vwCl [((q 201), .inl (k 1, 5340, .inl at0))] H := hP
  have hD : va_D A [((q 201), .inl (k 1, 5340, .inl at0))] := hD
  refine W.eq (g2 := F0 m 33 ls [.int (-1)]) rfl ?_
  exact EWi hx hb hr hlocks hS () rfl trivial nil_P nil_D dX12_direction_33
set_option maxHeartbeats 4000000 in
set_option maxRecDepth 100000 in
theorem r_light (l : Launch) (D : va_G) (k : Nat → ClassId) (q : Nat → Nat) (a : Int32) (b : Int32) (c1 : Int32) (d1 : Int32) : WD (σ := Unit) l yX12_light cX12_light 5 (some .int) 8 0 0 D k [.ref (q 200), .int a, .int b, .int c1, .int d1] [((q 200), .inr (12, [.ref (q 201), .ref (q 202), .int 0, .long 0, .long 1, .ref (q 203), .ref (q 204), .ref (q 205), .ref (q 206), .ref (q 207), .int 0, .int 0, .int 0, .int 0, .int 0, .int 0, .int (-1), .int (-1), .int 0, .int 0, .int 0, .ref (q 208), .int 0, .int 0, .ref (q 209), .ref (q 210), .ref (q 211), .ref (q 212), .ref (q 213), .int 0, .int 0, .ref (q 214), .ref (q 215), .ref (q 216), .int 0, .int 0])), ((q 201), .inl (k 1, 5340, .inl at0))] (fun _ => some (.int (-1))) (fun _ => True) (fun _ => []) := by
  refine MW (by decide) (Nat.le_of_ble_eq_true rfl) (fun p e s m below meth c ls A hx hb hml hr hlocks hin hts hown hKK hP hD hS hA hl => ?_)
  have hK := hKK.1
  have hl : lv_has ls 5 [(0, .ref (q 200)), (1, .int a), (2, .int b), (3, .int c1), (4, .int d1)] := hl
  refine lv_aload_n hx hb dX12_light_0 rfl (lv_at hl 0 rfl) ?_
  refine lv_iload_n hx hb dX12_light_1 rfl (lv_at hl 1 rfl) ?_
  refine CRV (As := [.int a]) (rest := []) hx hb hml hown hts hKK hP (m_isRock l D k q a) ci_X12_isRock qm_X12_243 ⟨Nat.le_of_ble_eq_true rfl, Nat.le_of_ble_eq_true rfl⟩ ⟨Nat.le_of_ble_eq_true rfl, Nat.le_of_ble_eq_true rfl⟩ 0 rfl rfl rfl hl.1 rfl (Nat.le_of_ble_eq_true rfl) dX12_light_2 ?_
  refine lv_if_eq (tgt := 47) hx hb dX12_light_5 (by decide) (fun _ => ?_) (fun c => absurd (by decide) c)
  refine lv_aload_n hx hb dX12_light_47 rfl (lv_at hl 0 rfl) ?_
  refine lv_iconst (v := 1) hx hb dX12_light_48 (by decide) ?_
  refine CWV (As := [.int 1]) (rest := []) (wc := [((q 200), .inr (12, [.ref (q 201), .ref (q 202), .int 0, .long 0, .long 1, .ref (q 203), .ref (q 204), .ref (q 205), .ref (q 206), .ref (q 207), .int 0, .int 0, .int 0, .int 0, .int 0, .int 0, .int (-1), .int (-1), .int 0, .int 0, .int 0, .ref (q 208), .int 0, .int 0, .ref (q 209), .ref (q 210), .ref (q 211), .ref (q 212), .ref (q 213), .int 0, .int 0, .ref (q 214), .ref (q 215), .ref (q 216), .int 0, .int 0]))]) (wr := [((q 201), .inl (k 1, 5340, .inl at0))]) hx hb hml hown hts hKK hP hD hS hA (m_refuse l D k (q 200) [.ref (q 201), .ref (q 202), .int 0, .long 0, .long 1, .ref (q 203), .ref (q 204), .ref (q 205), .ref (q 206), .ref (q 207), .int 0, .int 0, .int 0, .int 0, .int 0, .int 0, .int (-1), .int (-1), .int 0, .int 0, .int 0, .ref (q 208), .int 0, .int 0, .ref (q 209), .ref (q 210), .ref (q 211), .ref (q 212), .ref (q 213), .int 0, .int 0, .ref (q 214), .ref (q 215), .ref (q 216), .int 0, .int 0] (Nat.le_of_ble_eq_true rfl) 1) ci_X12_refuse qm_X12_81 ⟨Nat.le_of_ble_eq_true rfl, Nat.le_of_ble_eq_true rfl⟩ ⟨Nat.le_of_ble_eq_true rfl, Nat.le_of_ble_eq_true rfl⟩ [0] [1] rfl rfl rfl rfl rfl (by decide) 0 rfl rfl rfl hl.1 rfl (Nat.le_of_ble_eq_true rfl) dX12_light_49 (fun u_1 H locs hφ hP hD hS => ?_)
  have hP : va_P D vwCl [((q 201), .inl (k 1, 5340, .inl at0))] H := hP
  have hD : va_D A [((q 201), .inl (k 1, 5340, .inl at0))] := hD
  refine W.eq (g2 := F0 m 52 ls [.int (-1)]) rfl ?_
  exact EWi hx hb hr hlocks hS () rfl trivial nil_P nil_D dX12_light_52
set_option maxHeartbeats 4000000 in
set_option maxRecDepth 100000 in
theorem r_iced (l : Launch) (D : va_G) (k : Nat → ClassId) (q : Nat → Nat) (a : Int32) (b : Int32) (c1 : Int32) : WD (σ := Unit) l yX12_iced cX12_iced 4 (some .int) 8 0 0 D k [.ref (q 200), .int a, .int b, .int c1] [((q 200), .inr (12, [.ref (q 201), .ref (q 202), .int 0, .long 0, .long 1, .ref (q 203), .ref (q 204), .ref (q 205), .ref (q 206), .ref (q 207), .int 0, .int 0, .int 0, .int 0, .int 0, .int 0, .int (-1), .int (-1), .int 0, .int 0, .int 0, .ref (q 208), .int 0, .int 0, .ref (q 209), .ref (q 210), .ref (q 211), .ref (q 212), .ref (q 213), .int 0, .int 0, .ref (q 214), .ref (q 215), .ref (q 216), .int 0, .int 0])), ((q 201), .inl (k 1, 5340, .inl at0))] (fun _ => some (.int (-1))) (fun _ => True) (fun _ => []) := by
  refine MW (by decide) (Nat.le_of_ble_eq_true rfl) (fun p e s m below meth c ls A hx hb hml hr hlocks hin hts hown hKK hP hD hS hA hl => ?_)
  have hK := hKK.1
  have hl : lv_has ls 4 [(0, .ref (q 200)), (1, .int a), (2, .int b), (3, .int c1)] := hl
  refine lv_aload_n hx hb dX12_iced_0 rfl (lv_at hl 0 rfl) ?_
  refine lv_iload_n hx hb dX12_iced_1 rfl (lv_at hl 1 rfl) ?_
  refine lv_iload_n hx hb dX12_iced_2 rfl (lv_at hl 2 rfl) ?_
  refine CRV (As := [.int a, .int b]) (rest := []) hx hb hml hown hts hKK hP (m_areTwo l D k q a b) ci_X12_areTwo qm_X12_265 ⟨Nat.le_of_ble_eq_true rfl, Nat.le_of_ble_eq_true rfl⟩ ⟨Nat.le_of_ble_eq_true rfl, Nat.le_of_ble_eq_true rfl⟩ 0 rfl rfl rfl hl.1 rfl (Nat.le_of_ble_eq_true rfl) dX12_iced_3 ?_
  refine lv_if_eq (tgt := 38) hx hb dX12_iced_6 (by decide) (fun _ => ?_) (fun c => absurd (by decide) c)
  refine lv_aload_n hx hb dX12_iced_38 rfl (lv_at hl 0 rfl) ?_
  refine lv_iconst (v := 1) hx hb dX12_iced_39 (by decide) ?_
  refine CWV (As := [.int 1]) (rest := []) (wc := [((q 200), .inr (12, [.ref (q 201), .ref (q 202), .int 0, .long 0, .long 1, .ref (q 203), .ref (q 204), .ref (q 205), .ref (q 206), .ref (q 207), .int 0, .int 0, .int 0, .int 0, .int 0, .int 0, .int (-1), .int (-1), .int 0, .int 0, .int 0, .ref (q 208), .int 0, .int 0, .ref (q 209), .ref (q 210), .ref (q 211), .ref (q 212), .ref (q 213), .int 0, .int 0, .ref (q 214), .ref (q 215), .ref (q 216), .int 0, .int 0]))]) (wr := [((q 201), .inl (k 1, 5340, .inl at0))]) hx hb hml hown hts hKK hP hD hS hA (m_refuse l D k (q 200) [.ref (q 201), .ref (q 202), .int 0, .long 0, .long 1, .ref (q 203), .ref (q 204), .ref (q 205), .ref (q 206), .ref (q 207), .int 0, .int 0, .int 0, .int 0, .int 0, .int 0, .int (-1), .int (-1), .int 0, .int 0, .int 0, .ref (q 208), .int 0, .int 0, .ref (q 209), .ref (q 210), .ref (q 211), .ref (q 212), .ref (q 213), .int 0, .int 0, .ref (q 214), .ref (q 215), .ref (q 216), .int 0, .int 0] (Nat.le_of_ble_eq_true rfl) 1) ci_X12_refuse qm_X12_81 ⟨Nat.le_of_ble_eq_true rfl, Nat.le_of_ble_eq_true rfl⟩ ⟨Nat.le_of_ble_eq_true rfl, Nat.le_of_ble_eq_true rfl⟩ [0] [1] rfl rfl rfl rfl rfl (by decide) 0 rfl rfl rfl hl.1 rfl (Nat.le_of_ble_eq_true rfl) dX12_iced_40 (fun u_1 H locs hφ hP hD hS => ?_)
  have hP : va_P D vwCl [((q 201), .inl (k 1, 5340, .inl at0))] H := hP
  have hD : va_D A [((q 201), .inl (k 1, 5340, .inl at0))] := hD
  refine W.eq (g2 := F0 m 43 ls [.int (-1)]) rfl ?_
  exact EWi hx hb hr hlocks hS () rfl trivial nil_P nil_D dX12_iced_43
set_option maxHeartbeats 4000000 in
set_option maxRecDepth 100000 in
theorem r_arrives (l : Launch) (D : va_G) (k : Nat → ClassId) (q : Nat → Nat) (a : Int32) (b : Int32) (c1 : Int32) : WD (σ := Unit) l yX12_arrives cX12_arrives 4 (some .int) 8 0 0 D k [.ref (q 200), .int a, .int b, .int c1] [((q 200), .inr (12, [.ref (q 201), .ref (q 202), .int 0, .long 0, .long 1, .ref (q 203), .ref (q 204), .ref (q 205), .ref (q 206), .ref (q 207), .int 0, .int 0, .int 0, .int 0, .int 0, .int 0, .int (-1), .int (-1), .int 0, .int 0, .int 0, .ref (q 208), .int 0, .int 0, .ref (q 209), .ref (q 210), .ref (q 211), .ref (q 212), .ref (q 213), .int 0, .int 0, .ref (q 214), .ref (q 215), .ref (q 216), .int 0, .int 0])), ((q 201), .inl (k 1, 5340, .inl at0))] (fun _ => some (.int (-1))) (fun _ => True) (fun _ => []) := by
  refine MW (by decide) (Nat.le_of_ble_eq_true rfl) (fun p e s m below meth c ls A hx hb hml hr hlocks hin hts hown hKK hP hD hS hA hl => ?_)
  have hK := hKK.1
  have hl : lv_has ls 4 [(0, .ref (q 200)), (1, .int a), (2, .int b), (3, .int c1)] := hl
  refine lv_aload_n hx hb dX12_arrives_0 rfl (lv_at hl 0 rfl) ?_
  refine lv_iload_n hx hb dX12_arrives_1 rfl (lv_at hl 1 rfl) ?_
  refine lv_iload_n hx hb dX12_arrives_2 rfl (lv_at hl 2 rfl) ?_
  refine lv_iload_n hx hb dX12_arrives_3 rfl (lv_at hl 3 rfl) ?_
  refine CRV (As := [.int a, .int b, .int c1]) (rest := []) hx hb hml hown hts hKK hP (m_isSent l D k q a b c1) ci_X12_isSent qm_X12_277 ⟨Nat.le_of_ble_eq_true rfl, Nat.le_of_ble_eq_true rfl⟩ ⟨Nat.le_of_ble_eq_true rfl, Nat.le_of_ble_eq_true rfl⟩ 0 rfl rfl rfl hl.1 rfl (Nat.le_of_ble_eq_true rfl) dX12_arrives_4 ?_
  refine lv_if_eq (tgt := 24) hx hb dX12_arrives_7 (by decide) (fun _ => ?_) (fun c => absurd (by decide) c)
  refine lv_aload_n hx hb dX12_arrives_24 rfl (lv_at hl 0 rfl) ?_
  refine lv_iconst (v := 1) hx hb dX12_arrives_25 (by decide) ?_
  refine CWV (As := [.int 1]) (rest := []) (wc := [((q 200), .inr (12, [.ref (q 201), .ref (q 202), .int 0, .long 0, .long 1, .ref (q 203), .ref (q 204), .ref (q 205), .ref (q 206), .ref (q 207), .int 0, .int 0, .int 0, .int 0, .int 0, .int 0, .int (-1), .int (-1), .int 0, .int 0, .int 0, .ref (q 208), .int 0, .int 0, .ref (q 209), .ref (q 210), .ref (q 211), .ref (q 212), .ref (q 213), .int 0, .int 0, .ref (q 214), .ref (q 215), .ref (q 216), .int 0, .int 0]))]) (wr := [((q 201), .inl (k 1, 5340, .inl at0))]) hx hb hml hown hts hKK hP hD hS hA (m_refuse l D k (q 200) [.ref (q 201), .ref (q 202), .int 0, .long 0, .long 1, .ref (q 203), .ref (q 204), .ref (q 205), .ref (q 206), .ref (q 207), .int 0, .int 0, .int 0, .int 0, .int 0, .int 0, .int (-1), .int (-1), .int 0, .int 0, .int 0, .ref (q 208), .int 0, .int 0, .ref (q 209), .ref (q 210), .ref (q 211), .ref (q 212), .ref (q 213), .int 0, .int 0, .ref (q 214), .ref (q 215), .ref (q 216), .int 0, .int 0] (Nat.le_of_ble_eq_true rfl) 1) ci_X12_refuse qm_X12_81 ⟨Nat.le_of_ble_eq_true rfl, Nat.le_of_ble_eq_true rfl⟩ ⟨Nat.le_of_ble_eq_true rfl, Nat.le_of_ble_eq_true rfl⟩ [0] [1] rfl rfl rfl rfl rfl (by decide) 0 rfl rfl rfl hl.1 rfl (Nat.le_of_ble_eq_true rfl) dX12_arrives_26 (fun u_1 H locs hφ hP hD hS => ?_)
  have hP : va_P D vwCl [((q 201), .inl (k 1, 5340, .inl at0))] H := hP
  have hD : va_D A [((q 201), .inl (k 1, 5340, .inl at0))] := hD
  refine W.eq (g2 := F0 m 29 ls [.int (-1)]) rfl ?_
  exact EWi hx hb hr hlocks hS () rfl trivial nil_P nil_D dX12_arrives_29
set_option maxHeartbeats 4000000 in
set_option maxRecDepth 100000 in
theorem r_ship (l : Launch) (D : va_G) (k : Nat → ClassId) (q : Nat → Nat) (a : Int32) (b : Int32) (c1 : Int32) : WD (σ := Unit) l yX12_ship cX12_ship 4 (some .int) 8 0 0 D k [.ref (q 200), .int a, .int b, .int c1] [((q 200), .inr (12, [.ref (q 201), .ref (q 202), .int 0, .long 0, .long 1, .ref (q 203), .ref (q 204), .ref (q 205), .ref (q 206), .ref (q 207), .int 0, .int 0, .int 0, .int 0, .int 0, .int 0, .int (-1), .int (-1), .int 0, .int 0, .int 0, .ref (q 208), .int 0, .int 0, .ref (q 209), .ref (q 210), .ref (q 211), .ref (q 212), .ref (q 213), .int 0, .int 0, .ref (q 214), .ref (q 215), .ref (q 216), .int 0, .int 0])), ((q 201), .inl (k 1, 5340, .inl at0))] (fun _ => some (.int (-1))) (fun _ => True) (fun _ => []) := by
  refine MW (by decide) (Nat.le_of_ble_eq_true rfl) (fun p e s m below meth c ls A hx hb hml hr hlocks hin hts hown hKK hP hD hS hA hl => ?_)
  have hK := hKK.1
  have hl : lv_has ls 4 [(0, .ref (q 200)), (1, .int a), (2, .int b), (3, .int c1)] := hl
  refine lv_aload_n hx hb dX12_ship_0 rfl (lv_at hl 0 rfl) ?_
  refine lv_iload_n hx hb dX12_ship_1 rfl (lv_at hl 1 rfl) ?_
  refine lv_iload_n hx hb dX12_ship_2 rfl (lv_at hl 2 rfl) ?_
  refine lv_iload_n hx hb dX12_ship_3 rfl (lv_at hl 3 rfl) ?_
  refine CRV (As := [.int a, .int b, .int c1]) (rest := []) hx hb hml hown hts hKK hP (m_isSent l D k q a b c1) ci_X12_isSent qm_X12_277 ⟨Nat.le_of_ble_eq_true rfl, Nat.le_of_ble_eq_true rfl⟩ ⟨Nat.le_of_ble_eq_true rfl, Nat.le_of_ble_eq_true rfl⟩ 0 rfl rfl rfl hl.1 rfl (Nat.le_of_ble_eq_true rfl) dX12_ship_4 ?_
  refine lv_if_eq (tgt := 26) hx hb dX12_ship_7 (by decide) (fun _ => ?_) (fun c => absurd (by decide) c)
  refine lv_aload_n hx hb dX12_ship_26 rfl (lv_at hl 0 rfl) ?_
  refine lv_iconst (v := 1) hx hb dX12_ship_27 (by decide) ?_
  refine CWV (As := [.int 1]) (rest := []) (wc := [((q 200), .inr (12, [.ref (q 201), .ref (q 202), .int 0, .long 0, .long 1, .ref (q 203), .ref (q 204), .ref (q 205), .ref (q 206), .ref (q 207), .int 0, .int 0, .int 0, .int 0, .int 0, .int 0, .int (-1), .int (-1), .int 0, .int 0, .int 0, .ref (q 208), .int 0, .int 0, .ref (q 209), .ref (q 210), .ref (q 211), .ref (q 212), .ref (q 213), .int 0, .int 0, .ref (q 214), .ref (q 215), .ref (q 216), .int 0, .int 0]))]) (wr := [((q 201), .inl (k 1, 5340, .inl at0))]) hx hb hml hown hts hKK hP hD hS hA (m_refuse l D k (q 200) [.ref (q 201), .ref (q 202), .int 0, .long 0, .long 1, .ref (q 203), .ref (q 204), .ref (q 205), .ref (q 206), .ref (q 207), .int 0, .int 0, .int 0, .int 0, .int 0, .int 0, .int (-1), .int (-1), .int 0, .int 0, .int 0, .ref (q 208), .int 0, .int 0, .ref (q 209), .ref (q 210), .ref (q 211), .ref (q 212), .ref (q 213), .int 0, .int 0, .ref (q 214), .ref (q 215), .ref (q 216), .int 0, .int 0] (Nat.le_of_ble_eq_true rfl) 1) ci_X12_refuse qm_X12_81 ⟨Nat.le_of_ble_eq_true rfl, Nat.le_of_ble_eq_true rfl⟩ ⟨Nat.le_of_ble_eq_true rfl, Nat.le_of_ble_eq_true rfl⟩ [0] [1] rfl rfl rfl rfl rfl (by decide) 0 rfl rfl rfl hl.1 rfl (Nat.le_of_ble_eq_true rfl) dX12_ship_28 (fun u_1 H locs hφ hP hD hS => ?_)
  have hP : va_P D vwCl [((q 201), .inl (k 1, 5340, .inl at0))] H := hP
  have hD : va_D A [((q 201), .inl (k 1, 5340, .inl at0))] := hD
  refine W.eq (g2 := F0 m 31 ls [.int (-1)]) rfl ?_
  exact EWi hx hb hr hlocks hS () rfl trivial nil_P nil_D dX12_ship_31
set_option maxHeartbeats 4000000 in
set_option maxRecDepth 100000 in
theorem r_sees (l : Launch) (D : va_G) (k : Nat → ClassId) (q : Nat → Nat) (a : Int32) (b : Int32) (c1 : Int32) : WD (σ := Unit) l yX12_sees cX12_sees 4 (some .int) 8 0 0 D k [.ref (q 200), .int a, .int b, .int c1] [((q 200), .inr (12, [.ref (q 201), .ref (q 202), .int 0, .long 0, .long 1, .ref (q 203), .ref (q 204), .ref (q 205), .ref (q 206), .ref (q 207), .int 0, .int 0, .int 0, .int 0, .int 0, .int 0, .int (-1), .int (-1), .int 0, .int 0, .int 0, .ref (q 208), .int 0, .int 0, .ref (q 209), .ref (q 210), .ref (q 211), .ref (q 212), .ref (q 213), .int 0, .int 0, .ref (q 214), .ref (q 215), .ref (q 216), .int 0, .int 0])), ((q 201), .inl (k 1, 5340, .inl at0))] (fun _ => some (.int (-1))) (fun _ => True) (fun _ => []) := by
  refine MW (by decide) (Nat.le_of_ble_eq_true rfl) (fun p e s m below meth c ls A hx hb hml hr hlocks hin hts hown hKK hP hD hS hA hl => ?_)
  have hK := hKK.1
  have hl : lv_has ls 4 [(0, .ref (q 200)), (1, .int a), (2, .int b), (3, .int c1)] := hl
  refine lv_aload_n hx hb dX12_sees_0 rfl (lv_at hl 0 rfl) ?_
  refine lv_iload_n hx hb dX12_sees_1 rfl (lv_at hl 1 rfl) ?_
  refine lv_iload_n hx hb dX12_sees_2 rfl (lv_at hl 3 rfl) ?_
  refine lv_iload_n hx hb dX12_sees_3 rfl (lv_at hl 2 rfl) ?_
  refine CRV (As := [.int a, .int c1, .int b]) (rest := []) hx hb hml hown hts hKK hP (m_isSent l D k q a c1 b) ci_X12_isSent qm_X12_277 ⟨Nat.le_of_ble_eq_true rfl, Nat.le_of_ble_eq_true rfl⟩ ⟨Nat.le_of_ble_eq_true rfl, Nat.le_of_ble_eq_true rfl⟩ 0 rfl rfl rfl hl.1 rfl (Nat.le_of_ble_eq_true rfl) dX12_sees_4 ?_
  refine lv_if_eq (tgt := 24) hx hb dX12_sees_7 (by decide) (fun _ => ?_) (fun c => absurd (by decide) c)
  refine lv_aload_n hx hb dX12_sees_24 rfl (lv_at hl 0 rfl) ?_
  refine lv_iconst (v := 1) hx hb dX12_sees_25 (by decide) ?_
  refine CWV (As := [.int 1]) (rest := []) (wc := [((q 200), .inr (12, [.ref (q 201), .ref (q 202), .int 0, .long 0, .long 1, .ref (q 203), .ref (q 204), .ref (q 205), .ref (q 206), .ref (q 207), .int 0, .int 0, .int 0, .int 0, .int 0, .int 0, .int (-1), .int (-1), .int 0, .int 0, .int 0, .ref (q 208), .int 0, .int 0, .ref (q 209), .ref (q 210), .ref (q 211), .ref (q 212), .ref (q 213), .int 0, .int 0, .ref (q 214), .ref (q 215), .ref (q 216), .int 0, .int 0]))]) (wr := [((q 201), .inl (k 1, 5340, .inl at0))]) hx hb hml hown hts hKK hP hD hS hA (m_refuse l D k (q 200) [.ref (q 201), .ref (q 202), .int 0, .long 0, .long 1, .ref (q 203), .ref (q 204), .ref (q 205), .ref (q 206), .ref (q 207), .int 0, .int 0, .int 0, .int 0, .int 0, .int 0, .int (-1), .int (-1), .int 0, .int 0, .int 0, .ref (q 208), .int 0, .int 0, .ref (q 209), .ref (q 210), .ref (q 211), .ref (q 212), .ref (q 213), .int 0, .int 0, .ref (q 214), .ref (q 215), .ref (q 216), .int 0, .int 0] (Nat.le_of_ble_eq_true rfl) 1) ci_X12_refuse qm_X12_81 ⟨Nat.le_of_ble_eq_true rfl, Nat.le_of_ble_eq_true rfl⟩ ⟨Nat.le_of_ble_eq_true rfl, Nat.le_of_ble_eq_true rfl⟩ [0] [1] rfl rfl rfl rfl rfl (by decide) 0 rfl rfl rfl hl.1 rfl (Nat.le_of_ble_eq_true rfl) dX12_sees_26 (fun u_1 H locs hφ hP hD hS => ?_)
  have hP : va_P D vwCl [((q 201), .inl (k 1, 5340, .inl at0))] H := hP
  have hD : va_D A [((q 201), .inl (k 1, 5340, .inl at0))] := hD
  refine W.eq (g2 := F0 m 29 ls [.int (-1)]) rfl ?_
  exact EWi hx hb hr hlocks hS () rfl trivial nil_P nil_D dX12_sees_29
set_option maxHeartbeats 4000000 in
set_option maxRecDepth 100000 in
theorem r_nearest (l : Launch) (D : va_G) (k : Nat → ClassId) (q : Nat → Nat) (a : Int32) (b : Int32) : WD (σ := Unit) l yX12_nearest cX12_nearest 5 (some .int) 8 0 0 D k [.ref (q 200), .int a, .int b] [((q 200), .inr (12, [.ref (q 201), .ref (q 202), .int 0, .long 0, .long 1, .ref (q 203), .ref (q 204), .ref (q 205), .ref (q 206), .ref (q 207), .int 0, .int 0, .int 0, .int 0, .int 0, .int 0, .int (-1), .int (-1), .int 0, .int 0, .int 0, .ref (q 208), .int 0, .int 0, .ref (q 209), .ref (q 210), .ref (q 211), .ref (q 212), .ref (q 213), .int 0, .int 0, .ref (q 214), .ref (q 215), .ref (q 216), .int 0, .int 0])), ((q 201), .inl (k 1, 5340, .inl at0))] (fun _ => some (.int (-1))) (fun _ => True) (fun _ => []) := by
  refine MW (by decide) (Nat.le_of_ble_eq_true rfl) (fun p e s m below meth c ls A hx hb hml hr hlocks hin hts hown hKK hP hD hS hA hl => ?_)
  have hK := hKK.1
  have hl : lv_has ls 5 [(0, .ref (q 200)), (1, .int a), (2, .int b)] := hl
  refine lv_aload_n hx hb dX12_nearest_0 rfl (lv_at hl 0 rfl) ?_
  refine lv_iload_n hx hb dX12_nearest_1 rfl (lv_at hl 1 rfl) ?_
  refine CRV (As := [.int a]) (rest := []) hx hb hml hown hts hKK hP (m_isRock l D k q a) ci_X12_isRock qm_X12_243 ⟨Nat.le_of_ble_eq_true rfl, Nat.le_of_ble_eq_true rfl⟩ ⟨Nat.le_of_ble_eq_true rfl, Nat.le_of_ble_eq_true rfl⟩ 0 rfl rfl rfl hl.1 rfl (Nat.le_of_ble_eq_true rfl) dX12_nearest_2 ?_
  refine lv_if_eq (tgt := 15) hx hb dX12_nearest_5 (by decide) (fun _ => ?_) (fun c => absurd (by decide) c)
  refine lv_aload_n hx hb dX12_nearest_15 rfl (lv_at hl 0 rfl) ?_
  refine lv_iconst (v := 1) hx hb dX12_nearest_16 (by decide) ?_
  refine CWV (As := [.int 1]) (rest := []) (wc := [((q 200), .inr (12, [.ref (q 201), .ref (q 202), .int 0, .long 0, .long 1, .ref (q 203), .ref (q 204), .ref (q 205), .ref (q 206), .ref (q 207), .int 0, .int 0, .int 0, .int 0, .int 0, .int 0, .int (-1), .int (-1), .int 0, .int 0, .int 0, .ref (q 208), .int 0, .int 0, .ref (q 209), .ref (q 210), .ref (q 211), .ref (q 212), .ref (q 213), .int 0, .int 0, .ref (q 214), .ref (q 215), .ref (q 216), .int 0, .int 0]))]) (wr := [((q 201), .inl (k 1, 5340, .inl at0))]) hx hb hml hown hts hKK hP hD hS hA (m_refuse l D k (q 200) [.ref (q 201), .ref (q 202), .int 0, .long 0, .long 1, .ref (q 203), .ref (q 204), .ref (q 205), .ref (q 206), .ref (q 207), .int 0, .int 0, .int 0, .int 0, .int 0, .int 0, .int (-1), .int (-1), .int 0, .int 0, .int 0, .ref (q 208), .int 0, .int 0, .ref (q 209), .ref (q 210), .ref (q 211), .ref (q 212), .ref (q 213), .int 0, .int 0, .ref (q 214), .ref (q 215), .ref (q 216), .int 0, .int 0] (Nat.le_of_ble_eq_true rfl) 1) ci_X12_refuse qm_X12_81 ⟨Nat.le_of_ble_eq_true rfl, Nat.le_of_ble_eq_true rfl⟩ ⟨Nat.le_of_ble_eq_true rfl, Nat.le_of_ble_eq_true rfl⟩ [0] [1] rfl rfl rfl rfl rfl (by decide) 0 rfl rfl rfl hl.1 rfl (Nat.le_of_ble_eq_true rfl) dX12_nearest_17 (fun u_1 H locs hφ hP hD hS => ?_)
  have hP : va_P D vwCl [((q 201), .inl (k 1, 5340, .inl at0))] H := hP
  have hD : va_D A [((q 201), .inl (k 1, 5340, .inl at0))] := hD
  refine W.eq (g2 := F0 m 20 ls [.int (-1)]) rfl ?_
  exact EWi hx hb hr hlocks hS () rfl trivial nil_P nil_D dX12_nearest_20
set_option maxHeartbeats 4000000 in
set_option maxRecDepth 100000 in
theorem r_meetings (l : Launch) (D : va_G) (k : Nat → ClassId) (q : Nat → Nat) (a : Int32) (b : Int32) (c1 : Int32) (d1 : Int32) : WD (σ := Unit) l yX12_meetings cX12_meetings 7 (some .int) 8 0 0 D k [.ref (q 200), .int a, .int b, .int c1, .int d1] [((q 200), .inr (12, [.ref (q 201), .ref (q 202), .int 0, .long 0, .long 1, .ref (q 203), .ref (q 204), .ref (q 205), .ref (q 206), .ref (q 207), .int 0, .int 0, .int 0, .int 0, .int 0, .int 0, .int (-1), .int (-1), .int 0, .int 0, .int 0, .ref (q 208), .int 0, .int 0, .ref (q 209), .ref (q 210), .ref (q 211), .ref (q 212), .ref (q 213), .int 0, .int 0, .ref (q 214), .ref (q 215), .ref (q 216), .int 0, .int 0])), ((q 201), .inl (k 1, 5340, .inl at0))] (fun _ => some (.int (-1))) (fun _ => True) (fun _ => []) := by
  refine MW (by decide) (Nat.le_of_ble_eq_true rfl) (fun p e s m below meth c ls A hx hb hml hr hlocks hin hts hown hKK hP hD hS hA hl => ?_)
  have hK := hKK.1
  have hl : lv_has ls 7 [(0, .ref (q 200)), (1, .int a), (2, .int b), (3, .int c1), (4, .int d1)] := hl
  refine lv_aload_n hx hb dX12_meetings_0 rfl (lv_at hl 0 rfl) ?_
  refine lv_iload_n hx hb dX12_meetings_1 rfl (lv_at hl 1 rfl) ?_
  refine lv_iload_n hx hb dX12_meetings_2 rfl (lv_at hl 2 rfl) ?_
  refine CRV (As := [.int a, .int b]) (rest := []) hx hb hml hown hts hKK hP (m_areTwo l D k q a b) ci_X12_areTwo qm_X12_265 ⟨Nat.le_of_ble_eq_true rfl, Nat.le_of_ble_eq_true rfl⟩ ⟨Nat.le_of_ble_eq_true rfl, Nat.le_of_ble_eq_true rfl⟩ 0 rfl rfl rfl hl.1 rfl (Nat.le_of_ble_eq_true rfl) dX12_meetings_3 ?_
  refine lv_if_eq (tgt := 30) hx hb dX12_meetings_6 (by decide) (fun _ => ?_) (fun c => absurd (by decide) c)
  refine lv_aload_n hx hb dX12_meetings_30 rfl (lv_at hl 0 rfl) ?_
  refine lv_iconst (v := 1) hx hb dX12_meetings_31 (by decide) ?_
  refine CWV (As := [.int 1]) (rest := []) (wc := [((q 200), .inr (12, [.ref (q 201), .ref (q 202), .int 0, .long 0, .long 1, .ref (q 203), .ref (q 204), .ref (q 205), .ref (q 206), .ref (q 207), .int 0, .int 0, .int 0, .int 0, .int 0, .int 0, .int (-1), .int (-1), .int 0, .int 0, .int 0, .ref (q 208), .int 0, .int 0, .ref (q 209), .ref (q 210), .ref (q 211), .ref (q 212), .ref (q 213), .int 0, .int 0, .ref (q 214), .ref (q 215), .ref (q 216), .int 0, .int 0]))]) (wr := [((q 201), .inl (k 1, 5340, .inl at0))]) hx hb hml hown hts hKK hP hD hS hA (m_refuse l D k (q 200) [.ref (q 201), .ref (q 202), .int 0, .long 0, .long 1, .ref (q 203), .ref (q 204), .ref (q 205), .ref (q 206), .ref (q 207), .int 0, .int 0, .int 0, .int 0, .int 0, .int 0, .int (-1), .int (-1), .int 0, .int 0, .int 0, .ref (q 208), .int 0, .int 0, .ref (q 209), .ref (q 210), .ref (q 211), .ref (q 212), .ref (q 213), .int 0, .int 0, .ref (q 214), .ref (q 215), .ref (q 216), .int 0, .int 0] (Nat.le_of_ble_eq_true rfl) 1) ci_X12_refuse qm_X12_81 ⟨Nat.le_of_ble_eq_true rfl, Nat.le_of_ble_eq_true rfl⟩ ⟨Nat.le_of_ble_eq_true rfl, Nat.le_of_ble_eq_true rfl⟩ [0] [1] rfl rfl rfl rfl rfl (by decide) 0 rfl rfl rfl hl.1 rfl (Nat.le_of_ble_eq_true rfl) dX12_meetings_32 (fun u_1 H locs hφ hP hD hS => ?_)
  have hP : va_P D vwCl [((q 201), .inl (k 1, 5340, .inl at0))] H := hP
  have hD : va_D A [((q 201), .inl (k 1, 5340, .inl at0))] := hD
  refine W.eq (g2 := F0 m 35 ls [.int (-1)]) rfl ?_
  exact EWi hx hb hr hlocks hS () rfl trivial nil_P nil_D dX12_meetings_35
set_option maxHeartbeats 4000000 in
set_option maxRecDepth 100000 in
theorem r_stale (l : Launch) (D : va_G) (k : Nat → ClassId) (q : Nat → Nat) (a : Int32) (b : Int32) (c1 : Int32) : WD (σ := Unit) l yX12_stale cX12_stale 5 (some .int) 8 0 0 D k [.ref (q 200), .int a, .int b, .int c1] [((q 200), .inr (12, [.ref (q 201), .ref (q 202), .int 0, .long 0, .long 1, .ref (q 203), .ref (q 204), .ref (q 205), .ref (q 206), .ref (q 207), .int 0, .int 0, .int 0, .int 0, .int 0, .int 0, .int (-1), .int (-1), .int 0, .int 0, .int 0, .ref (q 208), .int 0, .int 0, .ref (q 209), .ref (q 210), .ref (q 211), .ref (q 212), .ref (q 213), .int 0, .int 0, .ref (q 214), .ref (q 215), .ref (q 216), .int 0, .int 0])), ((q 201), .inl (k 1, 5340, .inl at0))] (fun _ => some (.int (-1))) (fun _ => True) (fun _ => []) := by
  refine MW (by decide) (Nat.le_of_ble_eq_true rfl) (fun p e s m below meth c ls A hx hb hml hr hlocks hin hts hown hKK hP hD hS hA hl => ?_)
  have hK := hKK.1
  have hl : lv_has ls 5 [(0, .ref (q 200)), (1, .int a), (2, .int b), (3, .int c1)] := hl
  refine lv_aload_n hx hb dX12_stale_0 rfl (lv_at hl 0 rfl) ?_
  refine lv_iload_n hx hb dX12_stale_1 rfl (lv_at hl 1 rfl) ?_
  refine lv_iload_n hx hb dX12_stale_2 rfl (lv_at hl 3 rfl) ?_
  refine lv_iload_n hx hb dX12_stale_3 rfl (lv_at hl 2 rfl) ?_
  refine CRV (As := [.int a, .int c1, .int b]) (rest := []) hx hb hml hown hts hKK hP (m_isSent l D k q a c1 b) ci_X12_isSent qm_X12_277 ⟨Nat.le_of_ble_eq_true rfl, Nat.le_of_ble_eq_true rfl⟩ ⟨Nat.le_of_ble_eq_true rfl, Nat.le_of_ble_eq_true rfl⟩ 0 rfl rfl rfl hl.1 rfl (Nat.le_of_ble_eq_true rfl) dX12_stale_4 ?_
  refine lv_if_ne (tgt := 16) hx hb dX12_stale_7 (by decide) (fun c => absurd (by decide) c) (fun _ => ?_)
  refine lv_aload_n hx hb dX12_stale_10 rfl (lv_at hl 0 rfl) ?_
  refine lv_iconst (v := 1) hx hb dX12_stale_11 (by decide) ?_
  refine CWV (As := [.int 1]) (rest := []) (wc := [((q 200), .inr (12, [.ref (q 201), .ref (q 202), .int 0, .long 0, .long 1, .ref (q 203), .ref (q 204), .ref (q 205), .ref (q 206), .ref (q 207), .int 0, .int 0, .int 0, .int 0, .int 0, .int 0, .int (-1), .int (-1), .int 0, .int 0, .int 0, .ref (q 208), .int 0, .int 0, .ref (q 209), .ref (q 210), .ref (q 211), .ref (q 212), .ref (q 213), .int 0, .int 0, .ref (q 214), .ref (q 215), .ref (q 216), .int 0, .int 0]))]) (wr := [((q 201), .inl (k 1, 5340, .inl at0))]) hx hb hml hown hts hKK hP hD hS hA (m_refuse l D k (q 200) [.ref (q 201), .ref (q 202), .int 0, .long 0, .long 1, .ref (q 203), .ref (q 204), .ref (q 205), .ref (q 206), .ref (q 207), .int 0, .int 0, .int 0, .int 0, .int 0, .int 0, .int (-1), .int (-1), .int 0, .int 0, .int 0, .ref (q 208), .int 0, .int 0, .ref (q 209), .ref (q 210), .ref (q 211), .ref (q 212), .ref (q 213), .int 0, .int 0, .ref (q 214), .ref (q 215), .ref (q 216), .int 0, .int 0] (Nat.le_of_ble_eq_true rfl) 1) ci_X12_refuse qm_X12_81 ⟨Nat.le_of_ble_eq_true rfl, Nat.le_of_ble_eq_true rfl⟩ ⟨Nat.le_of_ble_eq_true rfl, Nat.le_of_ble_eq_true rfl⟩ [0] [1] rfl rfl rfl rfl rfl (by decide) 0 rfl rfl rfl hl.1 rfl (Nat.le_of_ble_eq_true rfl) dX12_stale_12 (fun u_1 H locs hφ hP hD hS => ?_)
  have hP : va_P D vwCl [((q 201), .inl (k 1, 5340, .inl at0))] H := hP
  have hD : va_D A [((q 201), .inl (k 1, 5340, .inl at0))] := hD
  refine W.eq (g2 := F0 m 15 ls [.int (-1)]) rfl ?_
  exact EWi hx hb hr hlocks hS () rfl trivial nil_P nil_D dX12_stale_15
set_option maxHeartbeats 4000000 in
set_option maxRecDepth 100000 in
theorem r_blind (l : Launch) (D : va_G) (k : Nat → ClassId) (q : Nat → Nat) (a : Int32) : WD (σ := Unit) l yX12_blind cX12_blind 6 (some .int) 8 0 0 D k [.ref (q 200), .int a] [((q 200), .inr (12, [.ref (q 201), .ref (q 202), .int 0, .long 0, .long 1, .ref (q 203), .ref (q 204), .ref (q 205), .ref (q 206), .ref (q 207), .int 0, .int 0, .int 0, .int 0, .int 0, .int 0, .int (-1), .int (-1), .int 0, .int 0, .int 0, .ref (q 208), .int 0, .int 0, .ref (q 209), .ref (q 210), .ref (q 211), .ref (q 212), .ref (q 213), .int 0, .int 0, .ref (q 214), .ref (q 215), .ref (q 216), .int 0, .int 0])), ((q 201), .inl (k 1, 5340, .inl at0))] (fun _ => some (.int (-1))) (fun _ => True) (fun _ => []) := by
  refine MW (by decide) (Nat.le_of_ble_eq_true rfl) (fun p e s m below meth c ls A hx hb hml hr hlocks hin hts hown hKK hP hD hS hA hl => ?_)
  have hK := hKK.1
  have hl : lv_has ls 6 [(0, .ref (q 200)), (1, .int a)] := hl
  refine lv_aload_n hx hb dX12_blind_0 rfl (lv_at hl 0 rfl) ?_
  refine lv_iload_n hx hb dX12_blind_1 rfl (lv_at hl 1 rfl) ?_
  refine CRV (As := [.int a]) (rest := []) hx hb hml hown hts hKK hP (m_isRock l D k q a) ci_X12_isRock qm_X12_243 ⟨Nat.le_of_ble_eq_true rfl, Nat.le_of_ble_eq_true rfl⟩ ⟨Nat.le_of_ble_eq_true rfl, Nat.le_of_ble_eq_true rfl⟩ 0 rfl rfl rfl hl.1 rfl (Nat.le_of_ble_eq_true rfl) dX12_blind_2 ?_
  refine lv_if_ne (tgt := 14) hx hb dX12_blind_5 (by decide) (fun c => absurd (by decide) c) (fun _ => ?_)
  refine lv_aload_n hx hb dX12_blind_8 rfl (lv_at hl 0 rfl) ?_
  refine lv_iconst (v := 1) hx hb dX12_blind_9 (by decide) ?_
  refine CWV (As := [.int 1]) (rest := []) (wc := [((q 200), .inr (12, [.ref (q 201), .ref (q 202), .int 0, .long 0, .long 1, .ref (q 203), .ref (q 204), .ref (q 205), .ref (q 206), .ref (q 207), .int 0, .int 0, .int 0, .int 0, .int 0, .int 0, .int (-1), .int (-1), .int 0, .int 0, .int 0, .ref (q 208), .int 0, .int 0, .ref (q 209), .ref (q 210), .ref (q 211), .ref (q 212), .ref (q 213), .int 0, .int 0, .ref (q 214), .ref (q 215), .ref (q 216), .int 0, .int 0]))]) (wr := [((q 201), .inl (k 1, 5340, .inl at0))]) hx hb hml hown hts hKK hP hD hS hA (m_refuse l D k (q 200) [.ref (q 201), .ref (q 202), .int 0, .long 0, .long 1, .ref (q 203), .ref (q 204), .ref (q 205), .ref (q 206), .ref (q 207), .int 0, .int 0, .int 0, .int 0, .int 0, .int 0, .int (-1), .int (-1), .int 0, .int 0, .int 0, .ref (q 208), .int 0, .int 0, .ref (q 209), .ref (q 210), .ref (q 211), .ref (q 212), .ref (q 213), .int 0, .int 0, .ref (q 214), .ref (q 215), .ref (q 216), .int 0, .int 0] (Nat.le_of_ble_eq_true rfl) 1) ci_X12_refuse qm_X12_81 ⟨Nat.le_of_ble_eq_true rfl, Nat.le_of_ble_eq_true rfl⟩ ⟨Nat.le_of_ble_eq_true rfl, Nat.le_of_ble_eq_true rfl⟩ [0] [1] rfl rfl rfl rfl rfl (by decide) 0 rfl rfl rfl hl.1 rfl (Nat.le_of_ble_eq_true rfl) dX12_blind_10 (fun u_1 H locs hφ hP hD hS => ?_)
  have hP : va_P D vwCl [((q 201), .inl (k 1, 5340, .inl at0))] H := hP
  have hD : va_D A [((q 201), .inl (k 1, 5340, .inl at0))] := hD
  refine W.eq (g2 := F0 m 13 ls [.int (-1)]) rfl ?_
  exact EWi hx hb hr hlocks hS () rfl trivial nil_P nil_D dX12_blind_13
set_option maxHeartbeats 4000000 in
set_option maxRecDepth 100000 in
theorem r_closest (l : Launch) (D : va_G) (k : Nat → ClassId) (q : Nat → Nat) (a : Int32) (b : Int32) (c1 : Int32) (d1 : Int32) : WD (σ := Unit) l yX12_closest cX12_closest 6 (some .int) 8 0 0 D k [.ref (q 200), .int a, .int b, .int c1, .int d1] [((q 200), .inr (12, [.ref (q 201), .ref (q 202), .int 0, .long 0, .long 1, .ref (q 203), .ref (q 204), .ref (q 205), .ref (q 206), .ref (q 207), .int 0, .int 0, .int 0, .int 0, .int 0, .int 0, .int (-1), .int (-1), .int 0, .int 0, .int 0, .ref (q 208), .int 0, .int 0, .ref (q 209), .ref (q 210), .ref (q 211), .ref (q 212), .ref (q 213), .int 0, .int 0, .ref (q 214), .ref (q 215), .ref (q 216), .int 0, .int 0])), ((q 201), .inl (k 1, 5340, .inl at0))] (fun _ => some (.int (-1))) (fun _ => True) (fun _ => []) := by
  refine MW (by decide) (Nat.le_of_ble_eq_true rfl) (fun p e s m below meth c ls A hx hb hml hr hlocks hin hts hown hKK hP hD hS hA hl => ?_)
  have hK := hKK.1
  have hl : lv_has ls 6 [(0, .ref (q 200)), (1, .int a), (2, .int b), (3, .int c1), (4, .int d1)] := hl
  refine lv_aload_n hx hb dX12_closest_0 rfl (lv_at hl 0 rfl) ?_
  refine lv_iload_n hx hb dX12_closest_1 rfl (lv_at hl 1 rfl) ?_
  refine lv_iload_n hx hb dX12_closest_2 rfl (lv_at hl 2 rfl) ?_
  refine CRV (As := [.int a, .int b]) (rest := []) hx hb hml hown hts hKK hP (m_areTwo l D k q a b) ci_X12_areTwo qm_X12_265 ⟨Nat.le_of_ble_eq_true rfl, Nat.le_of_ble_eq_true rfl⟩ ⟨Nat.le_of_ble_eq_true rfl, Nat.le_of_ble_eq_true rfl⟩ 0 rfl rfl rfl hl.1 rfl (Nat.le_of_ble_eq_true rfl) dX12_closest_3 ?_
  refine lv_if_eq (tgt := 29) hx hb dX12_closest_6 (by decide) (fun _ => ?_) (fun c => absurd (by decide) c)
  refine lv_aload_n hx hb dX12_closest_29 rfl (lv_at hl 0 rfl) ?_
  refine lv_iconst (v := 1) hx hb dX12_closest_30 (by decide) ?_
  refine CWV (As := [.int 1]) (rest := []) (wc := [((q 200), .inr (12, [.ref (q 201), .ref (q 202), .int 0, .long 0, .long 1, .ref (q 203), .ref (q 204), .ref (q 205), .ref (q 206), .ref (q 207), .int 0, .int 0, .int 0, .int 0, .int 0, .int 0, .int (-1), .int (-1), .int 0, .int 0, .int 0, .ref (q 208), .int 0, .int 0, .ref (q 209), .ref (q 210), .ref (q 211), .ref (q 212), .ref (q 213), .int 0, .int 0, .ref (q 214), .ref (q 215), .ref (q 216), .int 0, .int 0]))]) (wr := [((q 201), .inl (k 1, 5340, .inl at0))]) hx hb hml hown hts hKK hP hD hS hA (m_refuse l D k (q 200) [.ref (q 201), .ref (q 202), .int 0, .long 0, .long 1, .ref (q 203), .ref (q 204), .ref (q 205), .ref (q 206), .ref (q 207), .int 0, .int 0, .int 0, .int 0, .int 0, .int 0, .int (-1), .int (-1), .int 0, .int 0, .int 0, .ref (q 208), .int 0, .int 0, .ref (q 209), .ref (q 210), .ref (q 211), .ref (q 212), .ref (q 213), .int 0, .int 0, .ref (q 214), .ref (q 215), .ref (q 216), .int 0, .int 0] (Nat.le_of_ble_eq_true rfl) 1) ci_X12_refuse qm_X12_81 ⟨Nat.le_of_ble_eq_true rfl, Nat.le_of_ble_eq_true rfl⟩ ⟨Nat.le_of_ble_eq_true rfl, Nat.le_of_ble_eq_true rfl⟩ [0] [1] rfl rfl rfl rfl rfl (by decide) 0 rfl rfl rfl hl.1 rfl (Nat.le_of_ble_eq_true rfl) dX12_closest_31 (fun u_1 H locs hφ hP hD hS => ?_)
  have hP : va_P D vwCl [((q 201), .inl (k 1, 5340, .inl at0))] H := hP
  have hD : va_D A [((q 201), .inl (k 1, 5340, .inl at0))] := hD
  refine W.eq (g2 := F0 m 34 ls [.int (-1)]) rfl ?_
  exact EWi hx hb hr hlocks hS () rfl trivial nil_P nil_D dX12_closest_34
set_option maxHeartbeats 4000000 in
set_option maxRecDepth 100000 in
theorem r_knows (l : Launch) (D : va_G) (k : Nat → ClassId) (q : Nat → Nat) (a : Int32) (b : Int32) (c1 : Int32) : WD (σ := Unit) l yX12_knows cX12_knows 4 (some .int) 8 0 0 D k [.ref (q 200), .int a, .int b, .int c1] [((q 200), .inr (12, [.ref (q 201), .ref (q 202), .int 0, .long 0, .long 1, .ref (q 203), .ref (q 204), .ref (q 205), .ref (q 206), .ref (q 207), .int 0, .int 0, .int 0, .int 0, .int 0, .int 0, .int (-1), .int (-1), .int 0, .int 0, .int 0, .ref (q 208), .int 0, .int 0, .ref (q 209), .ref (q 210), .ref (q 211), .ref (q 212), .ref (q 213), .int 0, .int 0, .ref (q 214), .ref (q 215), .ref (q 216), .int 0, .int 0])), ((q 201), .inl (k 1, 5340, .inl at0))] (fun _ => some (.int (-1))) (fun _ => True) (fun _ => []) := by
  refine MW (by decide) (Nat.le_of_ble_eq_true rfl) (fun p e s m below meth c ls A hx hb hml hr hlocks hin hts hown hKK hP hD hS hA hl => ?_)
  have hK := hKK.1
  have hl : lv_has ls 4 [(0, .ref (q 200)), (1, .int a), (2, .int b), (3, .int c1)] := hl
  refine lv_aload_n hx hb dX12_knows_0 rfl (lv_at hl 0 rfl) ?_
  refine lv_iload_n hx hb dX12_knows_1 rfl (lv_at hl 1 rfl) ?_
  refine lv_iload_n hx hb dX12_knows_2 rfl (lv_at hl 2 rfl) ?_
  refine CRV (As := [.int a, .int b]) (rest := []) hx hb hml hown hts hKK hP (m_isNews l D k q a b) ci_X12_isNews qm_X12_299 ⟨Nat.le_of_ble_eq_true rfl, Nat.le_of_ble_eq_true rfl⟩ ⟨Nat.le_of_ble_eq_true rfl, Nat.le_of_ble_eq_true rfl⟩ 0 rfl rfl rfl hl.1 rfl (Nat.le_of_ble_eq_true rfl) dX12_knows_3 ?_
  refine lv_if_eq (tgt := 17) hx hb dX12_knows_6 (by decide) (fun _ => ?_) (fun c => absurd (by decide) c)
  refine lv_aload_n hx hb dX12_knows_17 rfl (lv_at hl 0 rfl) ?_
  refine lv_iconst (v := 1) hx hb dX12_knows_18 (by decide) ?_
  refine CWV (As := [.int 1]) (rest := []) (wc := [((q 200), .inr (12, [.ref (q 201), .ref (q 202), .int 0, .long 0, .long 1, .ref (q 203), .ref (q 204), .ref (q 205), .ref (q 206), .ref (q 207), .int 0, .int 0, .int 0, .int 0, .int 0, .int 0, .int (-1), .int (-1), .int 0, .int 0, .int 0, .ref (q 208), .int 0, .int 0, .ref (q 209), .ref (q 210), .ref (q 211), .ref (q 212), .ref (q 213), .int 0, .int 0, .ref (q 214), .ref (q 215), .ref (q 216), .int 0, .int 0]))]) (wr := [((q 201), .inl (k 1, 5340, .inl at0))]) hx hb hml hown hts hKK hP hD hS hA (m_refuse l D k (q 200) [.ref (q 201), .ref (q 202), .int 0, .long 0, .long 1, .ref (q 203), .ref (q 204), .ref (q 205), .ref (q 206), .ref (q 207), .int 0, .int 0, .int 0, .int 0, .int 0, .int 0, .int (-1), .int (-1), .int 0, .int 0, .int 0, .ref (q 208), .int 0, .int 0, .ref (q 209), .ref (q 210), .ref (q 211), .ref (q 212), .ref (q 213), .int 0, .int 0, .ref (q 214), .ref (q 215), .ref (q 216), .int 0, .int 0] (Nat.le_of_ble_eq_true rfl) 1) ci_X12_refuse qm_X12_81 ⟨Nat.le_of_ble_eq_true rfl, Nat.le_of_ble_eq_true rfl⟩ ⟨Nat.le_of_ble_eq_true rfl, Nat.le_of_ble_eq_true rfl⟩ [0] [1] rfl rfl rfl rfl rfl (by decide) 0 rfl rfl rfl hl.1 rfl (Nat.le_of_ble_eq_true rfl) dX12_knows_19 (fun u_1 H locs hφ hP hD hS => ?_)
  have hP : va_P D vwCl [((q 201), .inl (k 1, 5340, .inl at0))] H := hP
  have hD : va_D A [((q 201), .inl (k 1, 5340, .inl at0))] := hD
  refine W.eq (g2 := F0 m 22 ls [.int (-1)]) rfl ?_
  exact EWi hx hb hr hlocks hS () rfl trivial nil_P nil_D dX12_knows_22
set_option maxHeartbeats 4000000 in
set_option maxRecDepth 100000 in
theorem r_teller (l : Launch) (D : va_G) (k : Nat → ClassId) (q : Nat → Nat) (a : Int32) (b : Int32) (c1 : Int32) : WD (σ := Unit) l yX12_teller cX12_teller 4 (some .int) 8 0 0 D k [.ref (q 200), .int a, .int b, .int c1] [((q 200), .inr (12, [.ref (q 201), .ref (q 202), .int 0, .long 0, .long 1, .ref (q 203), .ref (q 204), .ref (q 205), .ref (q 206), .ref (q 207), .int 0, .int 0, .int 0, .int 0, .int 0, .int 0, .int (-1), .int (-1), .int 0, .int 0, .int 0, .ref (q 208), .int 0, .int 0, .ref (q 209), .ref (q 210), .ref (q 211), .ref (q 212), .ref (q 213), .int 0, .int 0, .ref (q 214), .ref (q 215), .ref (q 216), .int 0, .int 0])), ((q 201), .inl (k 1, 5340, .inl at0))] (fun _ => some (.int (-1))) (fun _ => True) (fun _ => []) := by
  refine MW (by decide) (Nat.le_of_ble_eq_true rfl) (fun p e s m below meth c ls A hx hb hml hr hlocks hin hts hown hKK hP hD hS hA hl => ?_)
  have hK := hKK.1
  have hl : lv_has ls 4 [(0, .ref (q 200)), (1, .int a), (2, .int b), (3, .int c1)] := hl
  refine lv_aload_n hx hb dX12_teller_0 rfl (lv_at hl 0 rfl) ?_
  refine lv_iload_n hx hb dX12_teller_1 rfl (lv_at hl 1 rfl) ?_
  refine lv_iload_n hx hb dX12_teller_2 rfl (lv_at hl 2 rfl) ?_
  refine CRV (As := [.int a, .int b]) (rest := []) hx hb hml hown hts hKK hP (m_isNews l D k q a b) ci_X12_isNews qm_X12_299 ⟨Nat.le_of_ble_eq_true rfl, Nat.le_of_ble_eq_true rfl⟩ ⟨Nat.le_of_ble_eq_true rfl, Nat.le_of_ble_eq_true rfl⟩ 0 rfl rfl rfl hl.1 rfl (Nat.le_of_ble_eq_true rfl) dX12_teller_3 ?_
  refine lv_if_eq (tgt := 17) hx hb dX12_teller_6 (by decide) (fun _ => ?_) (fun c => absurd (by decide) c)
  refine lv_aload_n hx hb dX12_teller_17 rfl (lv_at hl 0 rfl) ?_
  refine lv_iconst (v := 1) hx hb dX12_teller_18 (by decide) ?_
  refine CWV (As := [.int 1]) (rest := []) (wc := [((q 200), .inr (12, [.ref (q 201), .ref (q 202), .int 0, .long 0, .long 1, .ref (q 203), .ref (q 204), .ref (q 205), .ref (q 206), .ref (q 207), .int 0, .int 0, .int 0, .int 0, .int 0, .int 0, .int (-1), .int (-1), .int 0, .int 0, .int 0, .ref (q 208), .int 0, .int 0, .ref (q 209), .ref (q 210), .ref (q 211), .ref (q 212), .ref (q 213), .int 0, .int 0, .ref (q 214), .ref (q 215), .ref (q 216), .int 0, .int 0]))]) (wr := [((q 201), .inl (k 1, 5340, .inl at0))]) hx hb hml hown hts hKK hP hD hS hA (m_refuse l D k (q 200) [.ref (q 201), .ref (q 202), .int 0, .long 0, .long 1, .ref (q 203), .ref (q 204), .ref (q 205), .ref (q 206), .ref (q 207), .int 0, .int 0, .int 0, .int 0, .int 0, .int 0, .int (-1), .int (-1), .int 0, .int 0, .int 0, .ref (q 208), .int 0, .int 0, .ref (q 209), .ref (q 210), .ref (q 211), .ref (q 212), .ref (q 213), .int 0, .int 0, .ref (q 214), .ref (q 215), .ref (q 216), .int 0, .int 0] (Nat.le_of_ble_eq_true rfl) 1) ci_X12_refuse qm_X12_81 ⟨Nat.le_of_ble_eq_true rfl, Nat.le_of_ble_eq_true rfl⟩ ⟨Nat.le_of_ble_eq_true rfl, Nat.le_of_ble_eq_true rfl⟩ [0] [1] rfl rfl rfl rfl rfl (by decide) 0 rfl rfl rfl hl.1 rfl (Nat.le_of_ble_eq_true rfl) dX12_teller_19 (fun u_1 H locs hφ hP hD hS => ?_)
  have hP : va_P D vwCl [((q 201), .inl (k 1, 5340, .inl at0))] H := hP
  have hD : va_D A [((q 201), .inl (k 1, 5340, .inl at0))] := hD
  refine W.eq (g2 := F0 m 22 ls [.int (-1)]) rfl ?_
  exact EWi hx hb hr hlocks hS () rfl trivial nil_P nil_D dX12_teller_22
set_option maxHeartbeats 4000000 in
set_option maxRecDepth 100000 in
theorem r_hops (l : Launch) (D : va_G) (k : Nat → ClassId) (q : Nat → Nat) (a : Int32) (b : Int32) (c1 : Int32) : WD (σ := Unit) l yX12_hops cX12_hops 4 (some .int) 8 0 0 D k [.ref (q 200), .int a, .int b, .int c1] [((q 200), .inr (12, [.ref (q 201), .ref (q 202), .int 0, .long 0, .long 1, .ref (q 203), .ref (q 204), .ref (q 205), .ref (q 206), .ref (q 207), .int 0, .int 0, .int 0, .int 0, .int 0, .int 0, .int (-1), .int (-1), .int 0, .int 0, .int 0, .ref (q 208), .int 0, .int 0, .ref (q 209), .ref (q 210), .ref (q 211), .ref (q 212), .ref (q 213), .int 0, .int 0, .ref (q 214), .ref (q 215), .ref (q 216), .int 0, .int 0])), ((q 201), .inl (k 1, 5340, .inl at0))] (fun _ => some (.int (-1))) (fun _ => True) (fun _ => []) := by
  refine MW (by decide) (Nat.le_of_ble_eq_true rfl) (fun p e s m below meth c ls A hx hb hml hr hlocks hin hts hown hKK hP hD hS hA hl => ?_)
  have hK := hKK.1
  have hl : lv_has ls 4 [(0, .ref (q 200)), (1, .int a), (2, .int b), (3, .int c1)] := hl
  refine lv_aload_n hx hb dX12_hops_0 rfl (lv_at hl 0 rfl) ?_
  refine lv_iload_n hx hb dX12_hops_1 rfl (lv_at hl 1 rfl) ?_
  refine lv_iload_n hx hb dX12_hops_2 rfl (lv_at hl 2 rfl) ?_
  refine CRV (As := [.int a, .int b]) (rest := []) hx hb hml hown hts hKK hP (m_isNews l D k q a b) ci_X12_isNews qm_X12_299 ⟨Nat.le_of_ble_eq_true rfl, Nat.le_of_ble_eq_true rfl⟩ ⟨Nat.le_of_ble_eq_true rfl, Nat.le_of_ble_eq_true rfl⟩ 0 rfl rfl rfl hl.1 rfl (Nat.le_of_ble_eq_true rfl) dX12_hops_3 ?_
  refine lv_if_eq (tgt := 17) hx hb dX12_hops_6 (by decide) (fun _ => ?_) (fun c => absurd (by decide) c)
  refine lv_aload_n hx hb dX12_hops_17 rfl (lv_at hl 0 rfl) ?_
  refine lv_iconst (v := 1) hx hb dX12_hops_18 (by decide) ?_
  refine CWV (As := [.int 1]) (rest := []) (wc := [((q 200), .inr (12, [.ref (q 201), .ref (q 202), .int 0, .long 0, .long 1, .ref (q 203), .ref (q 204), .ref (q 205), .ref (q 206), .ref (q 207), .int 0, .int 0, .int 0, .int 0, .int 0, .int 0, .int (-1), .int (-1), .int 0, .int 0, .int 0, .ref (q 208), .int 0, .int 0, .ref (q 209), .ref (q 210), .ref (q 211), .ref (q 212), .ref (q 213), .int 0, .int 0, .ref (q 214), .ref (q 215), .ref (q 216), .int 0, .int 0]))]) (wr := [((q 201), .inl (k 1, 5340, .inl at0))]) hx hb hml hown hts hKK hP hD hS hA (m_refuse l D k (q 200) [.ref (q 201), .ref (q 202), .int 0, .long 0, .long 1, .ref (q 203), .ref (q 204), .ref (q 205), .ref (q 206), .ref (q 207), .int 0, .int 0, .int 0, .int 0, .int 0, .int 0, .int (-1), .int (-1), .int 0, .int 0, .int 0, .ref (q 208), .int 0, .int 0, .ref (q 209), .ref (q 210), .ref (q 211), .ref (q 212), .ref (q 213), .int 0, .int 0, .ref (q 214), .ref (q 215), .ref (q 216), .int 0, .int 0] (Nat.le_of_ble_eq_true rfl) 1) ci_X12_refuse qm_X12_81 ⟨Nat.le_of_ble_eq_true rfl, Nat.le_of_ble_eq_true rfl⟩ ⟨Nat.le_of_ble_eq_true rfl, Nat.le_of_ble_eq_true rfl⟩ [0] [1] rfl rfl rfl rfl rfl (by decide) 0 rfl rfl rfl hl.1 rfl (Nat.le_of_ble_eq_true rfl) dX12_hops_19 (fun u_1 H locs hφ hP hD hS => ?_)
  have hP : va_P D vwCl [((q 201), .inl (k 1, 5340, .inl at0))] H := hP
  have hD : va_D A [((q 201), .inl (k 1, 5340, .inl at0))] := hD
  refine W.eq (g2 := F0 m 22 ls [.int (-1)]) rfl ?_
  exact EWi hx hb hr hlocks hS () rfl trivial nil_P nil_D dX12_hops_22
set_option maxHeartbeats 4000000 in
set_option maxRecDepth 100000 in
theorem r_knowing (l : Launch) (D : va_G) (k : Nat → ClassId) (q : Nat → Nat) (a : Int32) (b : Int32) (c1 : Int32) : WD (σ := Unit) l yX12_knowing cX12_knowing 4 (some .int) 8 0 0 D k [.ref (q 200), .int a, .int b, .int c1] [((q 200), .inr (12, [.ref (q 201), .ref (q 202), .int 0, .long 0, .long 1, .ref (q 203), .ref (q 204), .ref (q 205), .ref (q 206), .ref (q 207), .int 0, .int 0, .int 0, .int 0, .int 0, .int 0, .int (-1), .int (-1), .int 0, .int 0, .int 0, .ref (q 208), .int 0, .int 0, .ref (q 209), .ref (q 210), .ref (q 211), .ref (q 212), .ref (q 213), .int 0, .int 0, .ref (q 214), .ref (q 215), .ref (q 216), .int 0, .int 0])), ((q 201), .inl (k 1, 5340, .inl at0))] (fun _ => some (.int (-1))) (fun _ => True) (fun _ => []) := by
  refine MW (by decide) (Nat.le_of_ble_eq_true rfl) (fun p e s m below meth c ls A hx hb hml hr hlocks hin hts hown hKK hP hD hS hA hl => ?_)
  have hK := hKK.1
  have hl : lv_has ls 4 [(0, .ref (q 200)), (1, .int a), (2, .int b), (3, .int c1)] := hl
  refine lv_aload_n hx hb dX12_knowing_0 rfl (lv_at hl 0 rfl) ?_
  refine lv_iload_n hx hb dX12_knowing_1 rfl (lv_at hl 1 rfl) ?_
  refine lv_iload_n hx hb dX12_knowing_2 rfl (lv_at hl 2 rfl) ?_
  refine CRV (As := [.int a, .int b]) (rest := []) hx hb hml hown hts hKK hP (m_isNews l D k q a b) ci_X12_isNews qm_X12_299 ⟨Nat.le_of_ble_eq_true rfl, Nat.le_of_ble_eq_true rfl⟩ ⟨Nat.le_of_ble_eq_true rfl, Nat.le_of_ble_eq_true rfl⟩ 0 rfl rfl rfl hl.1 rfl (Nat.le_of_ble_eq_true rfl) dX12_knowing_3 ?_
  refine lv_if_eq (tgt := 16) hx hb dX12_knowing_6 (by decide) (fun _ => ?_) (fun c => absurd (by decide) c)
  refine lv_aload_n hx hb dX12_knowing_16 rfl (lv_at hl 0 rfl) ?_
  refine lv_iconst (v := 1) hx hb dX12_knowing_17 (by decide) ?_
  refine CWV (As := [.int 1]) (rest := []) (wc := [((q 200), .inr (12, [.ref (q 201), .ref (q 202), .int 0, .long 0, .long 1, .ref (q 203), .ref (q 204), .ref (q 205), .ref (q 206), .ref (q 207), .int 0, .int 0, .int 0, .int 0, .int 0, .int 0, .int (-1), .int (-1), .int 0, .int 0, .int 0, .ref (q 208), .int 0, .int 0, .ref (q 209), .ref (q 210), .ref (q 211), .ref (q 212), .ref (q 213), .int 0, .int 0, .ref (q 214), .ref (q 215), .ref (q 216), .int 0, .int 0]))]) (wr := [((q 201), .inl (k 1, 5340, .inl at0))]) hx hb hml hown hts hKK hP hD hS hA (m_refuse l D k (q 200) [.ref (q 201), .ref (q 202), .int 0, .long 0, .long 1, .ref (q 203), .ref (q 204), .ref (q 205), .ref (q 206), .ref (q 207), .int 0, .int 0, .int 0, .int 0, .int 0, .int 0, .int (-1), .int (-1), .int 0, .int 0, .int 0, .ref (q 208), .int 0, .int 0, .ref (q 209), .ref (q 210), .ref (q 211), .ref (q 212), .ref (q 213), .int 0, .int 0, .ref (q 214), .ref (q 215), .ref (q 216), .int 0, .int 0] (Nat.le_of_ble_eq_true rfl) 1) ci_X12_refuse qm_X12_81 ⟨Nat.le_of_ble_eq_true rfl, Nat.le_of_ble_eq_true rfl⟩ ⟨Nat.le_of_ble_eq_true rfl, Nat.le_of_ble_eq_true rfl⟩ [0] [1] rfl rfl rfl rfl rfl (by decide) 0 rfl rfl rfl hl.1 rfl (Nat.le_of_ble_eq_true rfl) dX12_knowing_18 (fun u_1 H locs hφ hP hD hS => ?_)
  have hP : va_P D vwCl [((q 201), .inl (k 1, 5340, .inl at0))] H := hP
  have hD : va_D A [((q 201), .inl (k 1, 5340, .inl at0))] := hD
  refine W.eq (g2 := F0 m 21 ls [.int (-1)]) rfl ?_
  exact EWi hx hb hr hlocks hS () rfl trivial nil_P nil_D dX12_knowing_21
set_option maxHeartbeats 4000000 in
set_option maxRecDepth 100000 in
theorem r_overtaken (l : Launch) (D : va_G) (k : Nat → ClassId) (q : Nat → Nat) (a : Int32) (b : Int32) : WD (σ := Unit) l yX12_overtaken cX12_overtaken 5 (some .int) 8 0 0 D k [.ref (q 200), .int a, .int b] [((q 200), .inr (12, [.ref (q 201), .ref (q 202), .int 0, .long 0, .long 1, .ref (q 203), .ref (q 204), .ref (q 205), .ref (q 206), .ref (q 207), .int 0, .int 0, .int 0, .int 0, .int 0, .int 0, .int (-1), .int (-1), .int 0, .int 0, .int 0, .ref (q 208), .int 0, .int 0, .ref (q 209), .ref (q 210), .ref (q 211), .ref (q 212), .ref (q 213), .int 0, .int 0, .ref (q 214), .ref (q 215), .ref (q 216), .int 0, .int 0])), ((q 201), .inl (k 1, 5340, .inl at0))] (fun _ => some (.int (-1))) (fun _ => True) (fun _ => []) := by
  refine MW (by decide) (Nat.le_of_ble_eq_true rfl) (fun p e s m below meth c ls A hx hb hml hr hlocks hin hts hown hKK hP hD hS hA hl => ?_)
  have hK := hKK.1
  have hl : lv_has ls 5 [(0, .ref (q 200)), (1, .int a), (2, .int b)] := hl
  refine lv_aload_n hx hb dX12_overtaken_0 rfl (lv_at hl 0 rfl) ?_
  refine lv_iload_n hx hb dX12_overtaken_1 rfl (lv_at hl 1 rfl) ?_
  refine lv_iload_n hx hb dX12_overtaken_2 rfl (lv_at hl 2 rfl) ?_
  refine CRV (As := [.int a, .int b]) (rest := []) hx hb hml hown hts hKK hP (m_isNews l D k q a b) ci_X12_isNews qm_X12_299 ⟨Nat.le_of_ble_eq_true rfl, Nat.le_of_ble_eq_true rfl⟩ ⟨Nat.le_of_ble_eq_true rfl, Nat.le_of_ble_eq_true rfl⟩ 0 rfl rfl rfl hl.1 rfl (Nat.le_of_ble_eq_true rfl) dX12_overtaken_3 ?_
  refine lv_if_ne (tgt := 15) hx hb dX12_overtaken_6 (by decide) (fun c => absurd (by decide) c) (fun _ => ?_)
  refine lv_aload_n hx hb dX12_overtaken_9 rfl (lv_at hl 0 rfl) ?_
  refine lv_iconst (v := 1) hx hb dX12_overtaken_10 (by decide) ?_
  refine CWV (As := [.int 1]) (rest := []) (wc := [((q 200), .inr (12, [.ref (q 201), .ref (q 202), .int 0, .long 0, .long 1, .ref (q 203), .ref (q 204), .ref (q 205), .ref (q 206), .ref (q 207), .int 0, .int 0, .int 0, .int 0, .int 0, .int 0, .int (-1), .int (-1), .int 0, .int 0, .int 0, .ref (q 208), .int 0, .int 0, .ref (q 209), .ref (q 210), .ref (q 211), .ref (q 212), .ref (q 213), .int 0, .int 0, .ref (q 214), .ref (q 215), .ref (q 216), .int 0, .int 0]))]) (wr := [((q 201), .inl (k 1, 5340, .inl at0))]) hx hb hml hown hts hKK hP hD hS hA (m_refuse l D k (q 200) [.ref (q 201), .ref (q 202), .int 0, .long 0, .long 1, .ref (q 203), .ref (q 204), .ref (q 205), .ref (q 206), .ref (q 207), .int 0, .int 0, .int 0, .int 0, .int 0, .int 0, .int (-1), .int (-1), .int 0, .int 0, .int 0, .ref (q 208), .int 0, .int 0, .ref (q 209), .ref (q 210), .ref (q 211), .ref (q 212), .ref (q 213), .int 0, .int 0, .ref (q 214), .ref (q 215), .ref (q 216), .int 0, .int 0] (Nat.le_of_ble_eq_true rfl) 1) ci_X12_refuse qm_X12_81 ⟨Nat.le_of_ble_eq_true rfl, Nat.le_of_ble_eq_true rfl⟩ ⟨Nat.le_of_ble_eq_true rfl, Nat.le_of_ble_eq_true rfl⟩ [0] [1] rfl rfl rfl rfl rfl (by decide) 0 rfl rfl rfl hl.1 rfl (Nat.le_of_ble_eq_true rfl) dX12_overtaken_11 (fun u_1 H locs hφ hP hD hS => ?_)
  have hP : va_P D vwCl [((q 201), .inl (k 1, 5340, .inl at0))] H := hP
  have hD : va_D A [((q 201), .inl (k 1, 5340, .inl at0))] := hD
  refine W.eq (g2 := F0 m 14 ls [.int (-1)]) rfl ?_
  exact EWi hx hb hr hlocks hS () rfl trivial nil_P nil_D dX12_overtaken_14
set_option maxHeartbeats 4000000 in
set_option maxRecDepth 100000 in
theorem r_early (l : Launch) (D : va_G) (k : Nat → ClassId) (q : Nat → Nat) (a : Int32) (b : Int32) (c1 : Int32) : WD (σ := Unit) l yX12_early cX12_early 6 (some .int) 8 0 0 D k [.ref (q 200), .int a, .int b, .int c1] [((q 200), .inr (12, [.ref (q 201), .ref (q 202), .int 0, .long 0, .long 1, .ref (q 203), .ref (q 204), .ref (q 205), .ref (q 206), .ref (q 207), .int 0, .int 0, .int 0, .int 0, .int 0, .int 0, .int (-1), .int (-1), .int 0, .int 0, .int 0, .ref (q 208), .int 0, .int 0, .ref (q 209), .ref (q 210), .ref (q 211), .ref (q 212), .ref (q 213), .int 0, .int 0, .ref (q 214), .ref (q 215), .ref (q 216), .int 0, .int 0])), ((q 201), .inl (k 1, 5340, .inl at0))] (fun _ => some (.int (-1))) (fun _ => True) (fun _ => []) := by
  refine MW (by decide) (Nat.le_of_ble_eq_true rfl) (fun p e s m below meth c ls A hx hb hml hr hlocks hin hts hown hKK hP hD hS hA hl => ?_)
  have hK := hKK.1
  have hl : lv_has ls 6 [(0, .ref (q 200)), (1, .int a), (2, .int b), (3, .int c1)] := hl
  refine lv_aload_n hx hb dX12_early_0 rfl (lv_at hl 0 rfl) ?_
  refine lv_iload_n hx hb dX12_early_1 rfl (lv_at hl 1 rfl) ?_
  refine lv_iload_n hx hb dX12_early_2 rfl (lv_at hl 2 rfl) ?_
  refine CRV (As := [.int a, .int b]) (rest := []) hx hb hml hown hts hKK hP (m_isNews l D k q a b) ci_X12_isNews qm_X12_299 ⟨Nat.le_of_ble_eq_true rfl, Nat.le_of_ble_eq_true rfl⟩ ⟨Nat.le_of_ble_eq_true rfl, Nat.le_of_ble_eq_true rfl⟩ 0 rfl rfl rfl hl.1 rfl (Nat.le_of_ble_eq_true rfl) dX12_early_3 ?_
  refine lv_if_eq (tgt := 16) hx hb dX12_early_6 (by decide) (fun _ => ?_) (fun c => absurd (by decide) c)
  refine lv_aload_n hx hb dX12_early_16 rfl (lv_at hl 0 rfl) ?_
  refine lv_iconst (v := 1) hx hb dX12_early_17 (by decide) ?_
  refine CWV (As := [.int 1]) (rest := []) (wc := [((q 200), .inr (12, [.ref (q 201), .ref (q 202), .int 0, .long 0, .long 1, .ref (q 203), .ref (q 204), .ref (q 205), .ref (q 206), .ref (q 207), .int 0, .int 0, .int 0, .int 0, .int 0, .int 0, .int (-1), .int (-1), .int 0, .int 0, .int 0, .ref (q 208), .int 0, .int 0, .ref (q 209), .ref (q 210), .ref (q 211), .ref (q 212), .ref (q 213), .int 0, .int 0, .ref (q 214), .ref (q 215), .ref (q 216), .int 0, .int 0]))]) (wr := [((q 201), .inl (k 1, 5340, .inl at0))]) hx hb hml hown hts hKK hP hD hS hA (m_refuse l D k (q 200) [.ref (q 201), .ref (q 202), .int 0, .long 0, .long 1, .ref (q 203), .ref (q 204), .ref (q 205), .ref (q 206), .ref (q 207), .int 0, .int 0, .int 0, .int 0, .int 0, .int 0, .int (-1), .int (-1), .int 0, .int 0, .int 0, .ref (q 208), .int 0, .int 0, .ref (q 209), .ref (q 210), .ref (q 211), .ref (q 212), .ref (q 213), .int 0, .int 0, .ref (q 214), .ref (q 215), .ref (q 216), .int 0, .int 0] (Nat.le_of_ble_eq_true rfl) 1) ci_X12_refuse qm_X12_81 ⟨Nat.le_of_ble_eq_true rfl, Nat.le_of_ble_eq_true rfl⟩ ⟨Nat.le_of_ble_eq_true rfl, Nat.le_of_ble_eq_true rfl⟩ [0] [1] rfl rfl rfl rfl rfl (by decide) 0 rfl rfl rfl hl.1 rfl (Nat.le_of_ble_eq_true rfl) dX12_early_18 (fun u_1 H locs hφ hP hD hS => ?_)
  have hP : va_P D vwCl [((q 201), .inl (k 1, 5340, .inl at0))] H := hP
  have hD : va_D A [((q 201), .inl (k 1, 5340, .inl at0))] := hD
  refine W.eq (g2 := F0 m 21 ls [.int (-1)]) rfl ?_
  exact EWi hx hb hr hlocks hS () rfl trivial nil_P nil_D dX12_early_21
set_option maxHeartbeats 4000000 in
set_option maxRecDepth 100000 in
theorem r_latest (l : Launch) (D : va_G) (k : Nat → ClassId) (q : Nat → Nat) (a : Int32) (b : Int32) : WD (σ := Unit) l yX12_latest cX12_latest 3 (some .int) 8 0 0 D k [.ref (q 200), .int a, .int b] [((q 200), .inr (12, [.ref (q 201), .ref (q 202), .int 0, .long 0, .long 1, .ref (q 203), .ref (q 204), .ref (q 205), .ref (q 206), .ref (q 207), .int 0, .int 0, .int 0, .int 0, .int 0, .int 0, .int (-1), .int (-1), .int 0, .int 0, .int 0, .ref (q 208), .int 0, .int 0, .ref (q 209), .ref (q 210), .ref (q 211), .ref (q 212), .ref (q 213), .int 0, .int 0, .ref (q 214), .ref (q 215), .ref (q 216), .int 0, .int 0])), ((q 201), .inl (k 1, 5340, .inl at0))] (fun _ => some (.int (-1))) (fun _ => True) (fun _ => []) := by
  refine MW (by decide) (Nat.le_of_ble_eq_true rfl) (fun p e s m below meth c ls A hx hb hml hr hlocks hin hts hown hKK hP hD hS hA hl => ?_)
  have hK := hKK.1
  have hl : lv_has ls 3 [(0, .ref (q 200)), (1, .int a), (2, .int b)] := hl
  refine lv_aload_n hx hb dX12_latest_0 rfl (lv_at hl 0 rfl) ?_
  refine lv_iload_n hx hb dX12_latest_1 rfl (lv_at hl 1 rfl) ?_
  refine lv_iload_n hx hb dX12_latest_2 rfl (lv_at hl 2 rfl) ?_
  refine CRV (As := [.int a, .int b]) (rest := []) hx hb hml hown hts hKK hP (m_isNews l D k q a b) ci_X12_isNews qm_X12_299 ⟨Nat.le_of_ble_eq_true rfl, Nat.le_of_ble_eq_true rfl⟩ ⟨Nat.le_of_ble_eq_true rfl, Nat.le_of_ble_eq_true rfl⟩ 0 rfl rfl rfl hl.1 rfl (Nat.le_of_ble_eq_true rfl) dX12_latest_3 ?_
  refine lv_if_ne (tgt := 15) hx hb dX12_latest_6 (by decide) (fun c => absurd (by decide) c) (fun _ => ?_)
  refine lv_aload_n hx hb dX12_latest_9 rfl (lv_at hl 0 rfl) ?_
  refine lv_iconst (v := 1) hx hb dX12_latest_10 (by decide) ?_
  refine CWV (As := [.int 1]) (rest := []) (wc := [((q 200), .inr (12, [.ref (q 201), .ref (q 202), .int 0, .long 0, .long 1, .ref (q 203), .ref (q 204), .ref (q 205), .ref (q 206), .ref (q 207), .int 0, .int 0, .int 0, .int 0, .int 0, .int 0, .int (-1), .int (-1), .int 0, .int 0, .int 0, .ref (q 208), .int 0, .int 0, .ref (q 209), .ref (q 210), .ref (q 211), .ref (q 212), .ref (q 213), .int 0, .int 0, .ref (q 214), .ref (q 215), .ref (q 216), .int 0, .int 0]))]) (wr := [((q 201), .inl (k 1, 5340, .inl at0))]) hx hb hml hown hts hKK hP hD hS hA (m_refuse l D k (q 200) [.ref (q 201), .ref (q 202), .int 0, .long 0, .long 1, .ref (q 203), .ref (q 204), .ref (q 205), .ref (q 206), .ref (q 207), .int 0, .int 0, .int 0, .int 0, .int 0, .int 0, .int (-1), .int (-1), .int 0, .int 0, .int 0, .ref (q 208), .int 0, .int 0, .ref (q 209), .ref (q 210), .ref (q 211), .ref (q 212), .ref (q 213), .int 0, .int 0, .ref (q 214), .ref (q 215), .ref (q 216), .int 0, .int 0] (Nat.le_of_ble_eq_true rfl) 1) ci_X12_refuse qm_X12_81 ⟨Nat.le_of_ble_eq_true rfl, Nat.le_of_ble_eq_true rfl⟩ ⟨Nat.le_of_ble_eq_true rfl, Nat.le_of_ble_eq_true rfl⟩ [0] [1] rfl rfl rfl rfl rfl (by decide) 0 rfl rfl rfl hl.1 rfl (Nat.le_of_ble_eq_true rfl) dX12_latest_11 (fun u_1 H locs hφ hP hD hS => ?_)
  have hP : va_P D vwCl [((q 201), .inl (k 1, 5340, .inl at0))] H := hP
  have hD : va_D A [((q 201), .inl (k 1, 5340, .inl at0))] := hD
  refine W.eq (g2 := F0 m 14 ls [.int (-1)]) rfl ?_
  exact EWi hx hb hr hlocks hS () rfl trivial nil_P nil_D dX12_latest_14
set_option maxHeartbeats 4000000 in
set_option maxRecDepth 100000 in
theorem r_cutOff (l : Launch) (D : va_G) (k : Nat → ClassId) (q : Nat → Nat) (a : Int32) (b : Int32) : WD (σ := Unit) l yX12_cutOff cX12_cutOff 3 (some .int) 8 0 0 D k [.ref (q 200), .int a, .int b] [((q 200), .inr (12, [.ref (q 201), .ref (q 202), .int 0, .long 0, .long 1, .ref (q 203), .ref (q 204), .ref (q 205), .ref (q 206), .ref (q 207), .int 0, .int 0, .int 0, .int 0, .int 0, .int 0, .int (-1), .int (-1), .int 0, .int 0, .int 0, .ref (q 208), .int 0, .int 0, .ref (q 209), .ref (q 210), .ref (q 211), .ref (q 212), .ref (q 213), .int 0, .int 0, .ref (q 214), .ref (q 215), .ref (q 216), .int 0, .int 0])), ((q 201), .inl (k 1, 5340, .inl at0))] (fun _ => some (.int (-1))) (fun _ => True) (fun _ => []) := by
  refine MW (by decide) (Nat.le_of_ble_eq_true rfl) (fun p e s m below meth c ls A hx hb hml hr hlocks hin hts hown hKK hP hD hS hA hl => ?_)
  have hK := hKK.1
  have hl : lv_has ls 3 [(0, .ref (q 200)), (1, .int a), (2, .int b)] := hl
  refine lv_aload_n hx hb dX12_cutOff_0 rfl (lv_at hl 0 rfl) ?_
  refine lv_iload_n hx hb dX12_cutOff_1 rfl (lv_at hl 1 rfl) ?_
  refine lv_iload_n hx hb dX12_cutOff_2 rfl (lv_at hl 2 rfl) ?_
  refine CRV (As := [.int a, .int b]) (rest := []) hx hb hml hown hts hKK hP (m_isNews l D k q a b) ci_X12_isNews qm_X12_299 ⟨Nat.le_of_ble_eq_true rfl, Nat.le_of_ble_eq_true rfl⟩ ⟨Nat.le_of_ble_eq_true rfl, Nat.le_of_ble_eq_true rfl⟩ 0 rfl rfl rfl hl.1 rfl (Nat.le_of_ble_eq_true rfl) dX12_cutOff_3 ?_
  refine lv_if_ne (tgt := 15) hx hb dX12_cutOff_6 (by decide) (fun c => absurd (by decide) c) (fun _ => ?_)
  refine lv_aload_n hx hb dX12_cutOff_9 rfl (lv_at hl 0 rfl) ?_
  refine lv_iconst (v := 1) hx hb dX12_cutOff_10 (by decide) ?_
  refine CWV (As := [.int 1]) (rest := []) (wc := [((q 200), .inr (12, [.ref (q 201), .ref (q 202), .int 0, .long 0, .long 1, .ref (q 203), .ref (q 204), .ref (q 205), .ref (q 206), .ref (q 207), .int 0, .int 0, .int 0, .int 0, .int 0, .int 0, .int (-1), .int (-1), .int 0, .int 0, .int 0, .ref (q 208), .int 0, .int 0, .ref (q 209), .ref (q 210), .ref (q 211), .ref (q 212), .ref (q 213), .int 0, .int 0, .ref (q 214), .ref (q 215), .ref (q 216), .int 0, .int 0]))]) (wr := [((q 201), .inl (k 1, 5340, .inl at0))]) hx hb hml hown hts hKK hP hD hS hA (m_refuse l D k (q 200) [.ref (q 201), .ref (q 202), .int 0, .long 0, .long 1, .ref (q 203), .ref (q 204), .ref (q 205), .ref (q 206), .ref (q 207), .int 0, .int 0, .int 0, .int 0, .int 0, .int 0, .int (-1), .int (-1), .int 0, .int 0, .int 0, .ref (q 208), .int 0, .int 0, .ref (q 209), .ref (q 210), .ref (q 211), .ref (q 212), .ref (q 213), .int 0, .int 0, .ref (q 214), .ref (q 215), .ref (q 216), .int 0, .int 0] (Nat.le_of_ble_eq_true rfl) 1) ci_X12_refuse qm_X12_81 ⟨Nat.le_of_ble_eq_true rfl, Nat.le_of_ble_eq_true rfl⟩ ⟨Nat.le_of_ble_eq_true rfl, Nat.le_of_ble_eq_true rfl⟩ [0] [1] rfl rfl rfl rfl rfl (by decide) 0 rfl rfl rfl hl.1 rfl (Nat.le_of_ble_eq_true rfl) dX12_cutOff_11 (fun u_1 H locs hφ hP hD hS => ?_)
  have hP : va_P D vwCl [((q 201), .inl (k 1, 5340, .inl at0))] H := hP
  have hD : va_D A [((q 201), .inl (k 1, 5340, .inl at0))] := hD
  refine W.eq (g2 := F0 m 14 ls [.int (-1)]) rfl ?_
  exact EWi hx hb hr hlocks hS () rfl trivial nil_P nil_D dX12_cutOff_14
set_option maxHeartbeats 4000000 in
set_option maxRecDepth 100000 in
theorem r_hearsBack (l : Launch) (D : va_G) (k : Nat → ClassId) (q : Nat → Nat) (a : Int32) (b : Int32) : WD (σ := Unit) l yX12_hearsBack cX12_hearsBack 5 (some .int) 8 0 0 D k [.ref (q 200), .int a, .int b] [((q 200), .inr (12, [.ref (q 201), .ref (q 202), .int 0, .long 0, .long 1, .ref (q 203), .ref (q 204), .ref (q 205), .ref (q 206), .ref (q 207), .int 0, .int 0, .int 0, .int 0, .int 0, .int 0, .int (-1), .int (-1), .int 0, .int 0, .int 0, .ref (q 208), .int 0, .int 0, .ref (q 209), .ref (q 210), .ref (q 211), .ref (q 212), .ref (q 213), .int 0, .int 0, .ref (q 214), .ref (q 215), .ref (q 216), .int 0, .int 0])), ((q 201), .inl (k 1, 5340, .inl at0))] (fun _ => some (.int (-1))) (fun _ => True) (fun _ => []) := by
  refine MW (by decide) (Nat.le_of_ble_eq_true rfl) (fun p e s m below meth c ls A hx hb hml hr hlocks hin hts hown hKK hP hD hS hA hl => ?_)
  have hK := hKK.1
  have hl : lv_has ls 5 [(0, .ref (q 200)), (1, .int a), (2, .int b)] := hl
  refine lv_aload_n hx hb dX12_hearsBack_0 rfl (lv_at hl 0 rfl) ?_
  refine lv_iload_n hx hb dX12_hearsBack_1 rfl (lv_at hl 1 rfl) ?_
  refine lv_iload_n hx hb dX12_hearsBack_2 rfl (lv_at hl 2 rfl) ?_
  refine CRV (As := [.int a, .int b]) (rest := []) hx hb hml hown hts hKK hP (m_isNews l D k q a b) ci_X12_isNews qm_X12_299 ⟨Nat.le_of_ble_eq_true rfl, Nat.le_of_ble_eq_true rfl⟩ ⟨Nat.le_of_ble_eq_true rfl, Nat.le_of_ble_eq_true rfl⟩ 0 rfl rfl rfl hl.1 rfl (Nat.le_of_ble_eq_true rfl) dX12_hearsBack_3 ?_
  refine lv_if_ne (tgt := 15) hx hb dX12_hearsBack_6 (by decide) (fun c => absurd (by decide) c) (fun _ => ?_)
  refine lv_aload_n hx hb dX12_hearsBack_9 rfl (lv_at hl 0 rfl) ?_
  refine lv_iconst (v := 1) hx hb dX12_hearsBack_10 (by decide) ?_
  refine CWV (As := [.int 1]) (rest := []) (wc := [((q 200), .inr (12, [.ref (q 201), .ref (q 202), .int 0, .long 0, .long 1, .ref (q 203), .ref (q 204), .ref (q 205), .ref (q 206), .ref (q 207), .int 0, .int 0, .int 0, .int 0, .int 0, .int 0, .int (-1), .int (-1), .int 0, .int 0, .int 0, .ref (q 208), .int 0, .int 0, .ref (q 209), .ref (q 210), .ref (q 211), .ref (q 212), .ref (q 213), .int 0, .int 0, .ref (q 214), .ref (q 215), .ref (q 216), .int 0, .int 0]))]) (wr := [((q 201), .inl (k 1, 5340, .inl at0))]) hx hb hml hown hts hKK hP hD hS hA (m_refuse l D k (q 200) [.ref (q 201), .ref (q 202), .int 0, .long 0, .long 1, .ref (q 203), .ref (q 204), .ref (q 205), .ref (q 206), .ref (q 207), .int 0, .int 0, .int 0, .int 0, .int 0, .int 0, .int (-1), .int (-1), .int 0, .int 0, .int 0, .ref (q 208), .int 0, .int 0, .ref (q 209), .ref (q 210), .ref (q 211), .ref (q 212), .ref (q 213), .int 0, .int 0, .ref (q 214), .ref (q 215), .ref (q 216), .int 0, .int 0] (Nat.le_of_ble_eq_true rfl) 1) ci_X12_refuse qm_X12_81 ⟨Nat.le_of_ble_eq_true rfl, Nat.le_of_ble_eq_true rfl⟩ ⟨Nat.le_of_ble_eq_true rfl, Nat.le_of_ble_eq_true rfl⟩ [0] [1] rfl rfl rfl rfl rfl (by decide) 0 rfl rfl rfl hl.1 rfl (Nat.le_of_ble_eq_true rfl) dX12_hearsBack_11 (fun u_1 H locs hφ hP hD hS => ?_)
  have hP : va_P D vwCl [((q 201), .inl (k 1, 5340, .inl at0))] H := hP
  have hD : va_D A [((q 201), .inl (k 1, 5340, .inl at0))] := hD
  refine W.eq (g2 := F0 m 14 ls [.int (-1)]) rfl ?_
  exact EWi hx hb hr hlocks hS () rfl trivial nil_P nil_D dX12_hearsBack_14
set_option maxHeartbeats 4000000 in
set_option maxRecDepth 100000 in
theorem r_order (l : Launch) (D : va_G) (k : Nat → ClassId) (q : Nat → Nat) (a : Int32) : WD (σ := Unit) l yX12_order cX12_order 2 (some .int) 8 0 0 D k [.ref (q 200), .int a] [((q 200), .inr (12, [.ref (q 201), .ref (q 202), .int 0, .long 0, .long 1, .ref (q 203), .ref (q 204), .ref (q 205), .ref (q 206), .ref (q 207), .int 0, .int 0, .int 0, .int 0, .int 0, .int 0, .int (-1), .int (-1), .int 0, .int 0, .int 0, .ref (q 208), .int 0, .int 0, .ref (q 209), .ref (q 210), .ref (q 211), .ref (q 212), .ref (q 213), .int 0, .int 0, .ref (q 214), .ref (q 215), .ref (q 216), .int 0, .int 0])), ((q 201), .inl (k 1, 5340, .inl at0))] (fun _ => some (.int (-1))) (fun _ => True) (fun _ => []) := by
  refine MW (by decide) (Nat.le_of_ble_eq_true rfl) (fun p e s m below meth c ls A hx hb hml hr hlocks hin hts hown hKK hP hD hS hA hl => ?_)
  have hK := hKK.1
  have hl : lv_has ls 2 [(0, .ref (q 200)), (1, .int a)] := hl
  refine lv_aload_n hx hb dX12_order_0 rfl (lv_at hl 0 rfl) ?_
  refine lv_iload_n hx hb dX12_order_1 rfl (lv_at hl 1 rfl) ?_
  refine CRV (As := [.int a]) (rest := []) hx hb hml hown hts hKK hP (m_isRock l D k q a) ci_X12_isRock qm_X12_243 ⟨Nat.le_of_ble_eq_true rfl, Nat.le_of_ble_eq_true rfl⟩ ⟨Nat.le_of_ble_eq_true rfl, Nat.le_of_ble_eq_true rfl⟩ 0 rfl rfl rfl hl.1 rfl (Nat.le_of_ble_eq_true rfl) dX12_order_2 ?_
  refine lv_if_ne (tgt := 14) hx hb dX12_order_5 (by decide) (fun c => absurd (by decide) c) (fun _ => ?_)
  refine lv_aload_n hx hb dX12_order_8 rfl (lv_at hl 0 rfl) ?_
  refine lv_iconst (v := 1) hx hb dX12_order_9 (by decide) ?_
  refine CWV (As := [.int 1]) (rest := []) (wc := [((q 200), .inr (12, [.ref (q 201), .ref (q 202), .int 0, .long 0, .long 1, .ref (q 203), .ref (q 204), .ref (q 205), .ref (q 206), .ref (q 207), .int 0, .int 0, .int 0, .int 0, .int 0, .int 0, .int (-1), .int (-1), .int 0, .int 0, .int 0, .ref (q 208), .int 0, .int 0, .ref (q 209), .ref (q 210), .ref (q 211), .ref (q 212), .ref (q 213), .int 0, .int 0, .ref (q 214), .ref (q 215), .ref (q 216), .int 0, .int 0]))]) (wr := [((q 201), .inl (k 1, 5340, .inl at0))]) hx hb hml hown hts hKK hP hD hS hA (m_refuse l D k (q 200) [.ref (q 201), .ref (q 202), .int 0, .long 0, .long 1, .ref (q 203), .ref (q 204), .ref (q 205), .ref (q 206), .ref (q 207), .int 0, .int 0, .int 0, .int 0, .int 0, .int 0, .int (-1), .int (-1), .int 0, .int 0, .int 0, .ref (q 208), .int 0, .int 0, .ref (q 209), .ref (q 210), .ref (q 211), .ref (q 212), .ref (q 213), .int 0, .int 0, .ref (q 214), .ref (q 215), .ref (q 216), .int 0, .int 0] (Nat.le_of_ble_eq_true rfl) 1) ci_X12_refuse qm_X12_81 ⟨Nat.le_of_ble_eq_true rfl, Nat.le_of_ble_eq_true rfl⟩ ⟨Nat.le_of_ble_eq_true rfl, Nat.le_of_ble_eq_true rfl⟩ [0] [1] rfl rfl rfl rfl rfl (by decide) 0 rfl rfl rfl hl.1 rfl (Nat.le_of_ble_eq_true rfl) dX12_order_10 (fun u_1 H locs hφ hP hD hS => ?_)
  have hP : va_P D vwCl [((q 201), .inl (k 1, 5340, .inl at0))] H := hP
  have hD : va_D A [((q 201), .inl (k 1, 5340, .inl at0))] := hD
  refine W.eq (g2 := F0 m 13 ls [.int (-1)]) rfl ?_
  exact EWi hx hb hr hlocks hS () rfl trivial nil_P nil_D dX12_order_13
set_option maxHeartbeats 4000000 in
set_option maxRecDepth 100000 in
theorem r_given (l : Launch) (D : va_G) (k : Nat → ClassId) (q : Nat → Nat) (a : Int32) (b : Int32) : WD (σ := Unit) l yX12_given cX12_given 3 (some .int) 8 0 0 D k [.ref (q 200), .int a, .int b] [((q 200), .inr (12, [.ref (q 201), .ref (q 202), .int 0, .long 0, .long 1, .ref (q 203), .ref (q 204), .ref (q 205), .ref (q 206), .ref (q 207), .int 0, .int 0, .int 0, .int 0, .int 0, .int 0, .int (-1), .int (-1), .int 0, .int 0, .int 0, .ref (q 208), .int 0, .int 0, .ref (q 209), .ref (q 210), .ref (q 211), .ref (q 212), .ref (q 213), .int 0, .int 0, .ref (q 214), .ref (q 215), .ref (q 216), .int 0, .int 0])), ((q 201), .inl (k 1, 5340, .inl at0))] (fun _ => some (.int (-1))) (fun _ => True) (fun _ => []) := by
  refine MW (by decide) (Nat.le_of_ble_eq_true rfl) (fun p e s m below meth c ls A hx hb hml hr hlocks hin hts hown hKK hP hD hS hA hl => ?_)
  have hK := hKK.1
  have hl : lv_has ls 3 [(0, .ref (q 200)), (1, .int a), (2, .int b)] := hl
  refine lv_aload_n hx hb dX12_given_0 rfl (lv_at hl 0 rfl) ?_
  refine lv_iload_n hx hb dX12_given_1 rfl (lv_at hl 1 rfl) ?_
  refine CRV (As := [.int a]) (rest := []) hx hb hml hown hts hKK hP (m_isOrder l D k q a) ci_X12_isOrder qm_X12_324 ⟨Nat.le_of_ble_eq_true rfl, Nat.le_of_ble_eq_true rfl⟩ ⟨Nat.le_of_ble_eq_true rfl, Nat.le_of_ble_eq_true rfl⟩ 0 rfl rfl rfl hl.1 rfl (Nat.le_of_ble_eq_true rfl) dX12_given_2 ?_
  refine lv_if_eq (tgt := 35) hx hb dX12_given_5 (by decide) (fun _ => ?_) (fun c => absurd (by decide) c)
  refine lv_aload_n hx hb dX12_given_35 rfl (lv_at hl 0 rfl) ?_
  refine lv_iconst (v := 1) hx hb dX12_given_36 (by decide) ?_
  refine CWV (As := [.int 1]) (rest := []) (wc := [((q 200), .inr (12, [.ref (q 201), .ref (q 202), .int 0, .long 0, .long 1, .ref (q 203), .ref (q 204), .ref (q 205), .ref (q 206), .ref (q 207), .int 0, .int 0, .int 0, .int 0, .int 0, .int 0, .int (-1), .int (-1), .int 0, .int 0, .int 0, .ref (q 208), .int 0, .int 0, .ref (q 209), .ref (q 210), .ref (q 211), .ref (q 212), .ref (q 213), .int 0, .int 0, .ref (q 214), .ref (q 215), .ref (q 216), .int 0, .int 0]))]) (wr := [((q 201), .inl (k 1, 5340, .inl at0))]) hx hb hml hown hts hKK hP hD hS hA (m_refuse l D k (q 200) [.ref (q 201), .ref (q 202), .int 0, .long 0, .long 1, .ref (q 203), .ref (q 204), .ref (q 205), .ref (q 206), .ref (q 207), .int 0, .int 0, .int 0, .int 0, .int 0, .int 0, .int (-1), .int (-1), .int 0, .int 0, .int 0, .ref (q 208), .int 0, .int 0, .ref (q 209), .ref (q 210), .ref (q 211), .ref (q 212), .ref (q 213), .int 0, .int 0, .ref (q 214), .ref (q 215), .ref (q 216), .int 0, .int 0] (Nat.le_of_ble_eq_true rfl) 1) ci_X12_refuse qm_X12_81 ⟨Nat.le_of_ble_eq_true rfl, Nat.le_of_ble_eq_true rfl⟩ ⟨Nat.le_of_ble_eq_true rfl, Nat.le_of_ble_eq_true rfl⟩ [0] [1] rfl rfl rfl rfl rfl (by decide) 0 rfl rfl rfl hl.1 rfl (Nat.le_of_ble_eq_true rfl) dX12_given_37 (fun u_1 H locs hφ hP hD hS => ?_)
  have hP : va_P D vwCl [((q 201), .inl (k 1, 5340, .inl at0))] H := hP
  have hD : va_D A [((q 201), .inl (k 1, 5340, .inl at0))] := hD
  refine W.eq (g2 := F0 m 40 ls [.int (-1)]) rfl ?_
  exact EWi hx hb hr hlocks hS () rfl trivial nil_P nil_D dX12_given_40
set_option maxHeartbeats 4000000 in
set_option maxRecDepth 100000 in
theorem r_heard (l : Launch) (D : va_G) (k : Nat → ClassId) (q : Nat → Nat) (a : Int32) (b : Int32) : WD (σ := Unit) l yX12_heard cX12_heard 3 (some .int) 8 0 0 D k [.ref (q 200), .int a, .int b] [((q 200), .inr (12, [.ref (q 201), .ref (q 202), .int 0, .long 0, .long 1, .ref (q 203), .ref (q 204), .ref (q 205), .ref (q 206), .ref (q 207), .int 0, .int 0, .int 0, .int 0, .int 0, .int 0, .int (-1), .int (-1), .int 0, .int 0, .int 0, .ref (q 208), .int 0, .int 0, .ref (q 209), .ref (q 210), .ref (q 211), .ref (q 212), .ref (q 213), .int 0, .int 0, .ref (q 214), .ref (q 215), .ref (q 216), .int 0, .int 0])), ((q 201), .inl (k 1, 5340, .inl at0))] (fun _ => some (.int (-1))) (fun _ => True) (fun _ => []) := by
  refine MW (by decide) (Nat.le_of_ble_eq_true rfl) (fun p e s m below meth c ls A hx hb hml hr hlocks hin hts hown hKK hP hD hS hA hl => ?_)
  have hK := hKK.1
  have hl : lv_has ls 3 [(0, .ref (q 200)), (1, .int a), (2, .int b)] := hl
  refine lv_aload_n hx hb dX12_heard_0 rfl (lv_at hl 0 rfl) ?_
  refine lv_iload_n hx hb dX12_heard_1 rfl (lv_at hl 1 rfl) ?_
  refine CRV (As := [.int a]) (rest := []) hx hb hml hown hts hKK hP (m_isOrder l D k q a) ci_X12_isOrder qm_X12_324 ⟨Nat.le_of_ble_eq_true rfl, Nat.le_of_ble_eq_true rfl⟩ ⟨Nat.le_of_ble_eq_true rfl, Nat.le_of_ble_eq_true rfl⟩ 0 rfl rfl rfl hl.1 rfl (Nat.le_of_ble_eq_true rfl) dX12_heard_2 ?_
  refine lv_if_eq (tgt := 16) hx hb dX12_heard_5 (by decide) (fun _ => ?_) (fun c => absurd (by decide) c)
  refine lv_aload_n hx hb dX12_heard_16 rfl (lv_at hl 0 rfl) ?_
  refine lv_iconst (v := 1) hx hb dX12_heard_17 (by decide) ?_
  refine CWV (As := [.int 1]) (rest := []) (wc := [((q 200), .inr (12, [.ref (q 201), .ref (q 202), .int 0, .long 0, .long 1, .ref (q 203), .ref (q 204), .ref (q 205), .ref (q 206), .ref (q 207), .int 0, .int 0, .int 0, .int 0, .int 0, .int 0, .int (-1), .int (-1), .int 0, .int 0, .int 0, .ref (q 208), .int 0, .int 0, .ref (q 209), .ref (q 210), .ref (q 211), .ref (q 212), .ref (q 213), .int 0, .int 0, .ref (q 214), .ref (q 215), .ref (q 216), .int 0, .int 0]))]) (wr := [((q 201), .inl (k 1, 5340, .inl at0))]) hx hb hml hown hts hKK hP hD hS hA (m_refuse l D k (q 200) [.ref (q 201), .ref (q 202), .int 0, .long 0, .long 1, .ref (q 203), .ref (q 204), .ref (q 205), .ref (q 206), .ref (q 207), .int 0, .int 0, .int 0, .int 0, .int 0, .int 0, .int (-1), .int (-1), .int 0, .int 0, .int 0, .ref (q 208), .int 0, .int 0, .ref (q 209), .ref (q 210), .ref (q 211), .ref (q 212), .ref (q 213), .int 0, .int 0, .ref (q 214), .ref (q 215), .ref (q 216), .int 0, .int 0] (Nat.le_of_ble_eq_true rfl) 1) ci_X12_refuse qm_X12_81 ⟨Nat.le_of_ble_eq_true rfl, Nat.le_of_ble_eq_true rfl⟩ ⟨Nat.le_of_ble_eq_true rfl, Nat.le_of_ble_eq_true rfl⟩ [0] [1] rfl rfl rfl rfl rfl (by decide) 0 rfl rfl rfl hl.1 rfl (Nat.le_of_ble_eq_true rfl) dX12_heard_18 (fun u_1 H locs hφ hP hD hS => ?_)
  have hP : va_P D vwCl [((q 201), .inl (k 1, 5340, .inl at0))] H := hP
  have hD : va_D A [((q 201), .inl (k 1, 5340, .inl at0))] := hD
  refine W.eq (g2 := F0 m 21 ls [.int (-1)]) rfl ?_
  exact EWi hx hb hr hlocks hS () rfl trivial nil_P nil_D dX12_heard_21
set_option maxHeartbeats 4000000 in
set_option maxRecDepth 100000 in
theorem r_rules (l : Launch) (D : va_G) (k : Nat → ClassId) (q : Nat → Nat) (a : Int32) (b : Int32) : WD (σ := Unit) l yX12_rules cX12_rules 3 (some .int) 8 0 0 D k [.ref (q 200), .int a, .int b] [((q 200), .inr (12, [.ref (q 201), .ref (q 202), .int 0, .long 0, .long 1, .ref (q 203), .ref (q 204), .ref (q 205), .ref (q 206), .ref (q 207), .int 0, .int 0, .int 0, .int 0, .int 0, .int 0, .int (-1), .int (-1), .int 0, .int 0, .int 0, .ref (q 208), .int 0, .int 0, .ref (q 209), .ref (q 210), .ref (q 211), .ref (q 212), .ref (q 213), .int 0, .int 0, .ref (q 214), .ref (q 215), .ref (q 216), .int 0, .int 0])), ((q 201), .inl (k 1, 5340, .inl at0))] (fun _ => some (.int (-1))) (fun _ => True) (fun _ => []) := by
  refine MW (by decide) (Nat.le_of_ble_eq_true rfl) (fun p e s m below meth c ls A hx hb hml hr hlocks hin hts hown hKK hP hD hS hA hl => ?_)
  have hK := hKK.1
  have hl : lv_has ls 3 [(0, .ref (q 200)), (1, .int a), (2, .int b)] := hl
  refine lv_aload_n hx hb dX12_rules_0 rfl (lv_at hl 0 rfl) ?_
  refine lv_iload_n hx hb dX12_rules_1 rfl (lv_at hl 1 rfl) ?_
  refine CRV (As := [.int a]) (rest := []) hx hb hml hown hts hKK hP (m_isRock l D k q a) ci_X12_isRock qm_X12_243 ⟨Nat.le_of_ble_eq_true rfl, Nat.le_of_ble_eq_true rfl⟩ ⟨Nat.le_of_ble_eq_true rfl, Nat.le_of_ble_eq_true rfl⟩ 0 rfl rfl rfl hl.1 rfl (Nat.le_of_ble_eq_true rfl) dX12_rules_2 ?_
  refine lv_if_eq (tgt := 15) hx hb dX12_rules_5 (by decide) (fun _ => ?_) (fun c => absurd (by decide) c)
  refine lv_aload_n hx hb dX12_rules_15 rfl (lv_at hl 0 rfl) ?_
  refine lv_iconst (v := 1) hx hb dX12_rules_16 (by decide) ?_
  refine CWV (As := [.int 1]) (rest := []) (wc := [((q 200), .inr (12, [.ref (q 201), .ref (q 202), .int 0, .long 0, .long 1, .ref (q 203), .ref (q 204), .ref (q 205), .ref (q 206), .ref (q 207), .int 0, .int 0, .int 0, .int 0, .int 0, .int 0, .int (-1), .int (-1), .int 0, .int 0, .int 0, .ref (q 208), .int 0, .int 0, .ref (q 209), .ref (q 210), .ref (q 211), .ref (q 212), .ref (q 213), .int 0, .int 0, .ref (q 214), .ref (q 215), .ref (q 216), .int 0, .int 0]))]) (wr := [((q 201), .inl (k 1, 5340, .inl at0))]) hx hb hml hown hts hKK hP hD hS hA (m_refuse l D k (q 200) [.ref (q 201), .ref (q 202), .int 0, .long 0, .long 1, .ref (q 203), .ref (q 204), .ref (q 205), .ref (q 206), .ref (q 207), .int 0, .int 0, .int 0, .int 0, .int 0, .int 0, .int (-1), .int (-1), .int 0, .int 0, .int 0, .ref (q 208), .int 0, .int 0, .ref (q 209), .ref (q 210), .ref (q 211), .ref (q 212), .ref (q 213), .int 0, .int 0, .ref (q 214), .ref (q 215), .ref (q 216), .int 0, .int 0] (Nat.le_of_ble_eq_true rfl) 1) ci_X12_refuse qm_X12_81 ⟨Nat.le_of_ble_eq_true rfl, Nat.le_of_ble_eq_true rfl⟩ ⟨Nat.le_of_ble_eq_true rfl, Nat.le_of_ble_eq_true rfl⟩ [0] [1] rfl rfl rfl rfl rfl (by decide) 0 rfl rfl rfl hl.1 rfl (Nat.le_of_ble_eq_true rfl) dX12_rules_17 (fun u_1 H locs hφ hP hD hS => ?_)
  have hP : va_P D vwCl [((q 201), .inl (k 1, 5340, .inl at0))] H := hP
  have hD : va_D A [((q 201), .inl (k 1, 5340, .inl at0))] := hD
  refine W.eq (g2 := F0 m 20 ls [.int (-1)]) rfl ?_
  exact EWi hx hb hr hlocks hS () rfl trivial nil_P nil_D dX12_rules_20
set_option maxHeartbeats 4000000 in
set_option maxRecDepth 100000 in
theorem r_ruled (l : Launch) (D : va_G) (k : Nat → ClassId) (q : Nat → Nat) (a : Int32) (b : Int32) : WD (σ := Unit) l yX12_ruled cX12_ruled 5 (some .int) 8 0 0 D k [.ref (q 200), .int a, .int b] [((q 200), .inr (12, [.ref (q 201), .ref (q 202), .int 0, .long 0, .long 1, .ref (q 203), .ref (q 204), .ref (q 205), .ref (q 206), .ref (q 207), .int 0, .int 0, .int 0, .int 0, .int 0, .int 0, .int (-1), .int (-1), .int 0, .int 0, .int 0, .ref (q 208), .int 0, .int 0, .ref (q 209), .ref (q 210), .ref (q 211), .ref (q 212), .ref (q 213), .int 0, .int 0, .ref (q 214), .ref (q 215), .ref (q 216), .int 0, .int 0])), ((q 201), .inl (k 1, 5340, .inl at0))] (fun _ => some (.int (-1))) (fun _ => True) (fun _ => []) := by
  refine MW (by decide) (Nat.le_of_ble_eq_true rfl) (fun p e s m below meth c ls A hx hb hml hr hlocks hin hts hown hKK hP hD hS hA hl => ?_)
  have hK := hKK.1
  have hl : lv_has ls 5 [(0, .ref (q 200)), (1, .int a), (2, .int b)] := hl
  refine lv_aload_n hx hb dX12_ruled_0 rfl (lv_at hl 0 rfl) ?_
  refine lv_iload_n hx hb dX12_ruled_1 rfl (lv_at hl 1 rfl) ?_
  refine CRV (As := [.int a]) (rest := []) hx hb hml hown hts hKK hP (m_isOrder l D k q a) ci_X12_isOrder qm_X12_324 ⟨Nat.le_of_ble_eq_true rfl, Nat.le_of_ble_eq_true rfl⟩ ⟨Nat.le_of_ble_eq_true rfl, Nat.le_of_ble_eq_true rfl⟩ 0 rfl rfl rfl hl.1 rfl (Nat.le_of_ble_eq_true rfl) dX12_ruled_2 ?_
  refine lv_if_eq (tgt := 15) hx hb dX12_ruled_5 (by decide) (fun _ => ?_) (fun c => absurd (by decide) c)
  refine lv_aload_n hx hb dX12_ruled_15 rfl (lv_at hl 0 rfl) ?_
  refine lv_iconst (v := 1) hx hb dX12_ruled_16 (by decide) ?_
  refine CWV (As := [.int 1]) (rest := []) (wc := [((q 200), .inr (12, [.ref (q 201), .ref (q 202), .int 0, .long 0, .long 1, .ref (q 203), .ref (q 204), .ref (q 205), .ref (q 206), .ref (q 207), .int 0, .int 0, .int 0, .int 0, .int 0, .int 0, .int (-1), .int (-1), .int 0, .int 0, .int 0, .ref (q 208), .int 0, .int 0, .ref (q 209), .ref (q 210), .ref (q 211), .ref (q 212), .ref (q 213), .int 0, .int 0, .ref (q 214), .ref (q 215), .ref (q 216), .int 0, .int 0]))]) (wr := [((q 201), .inl (k 1, 5340, .inl at0))]) hx hb hml hown hts hKK hP hD hS hA (m_refuse l D k (q 200) [.ref (q 201), .ref (q 202), .int 0, .long 0, .long 1, .ref (q 203), .ref (q 204), .ref (q 205), .ref (q 206), .ref (q 207), .int 0, .int 0, .int 0, .int 0, .int 0, .int 0, .int (-1), .int (-1), .int 0, .int 0, .int 0, .ref (q 208), .int 0, .int 0, .ref (q 209), .ref (q 210), .ref (q 211), .ref (q 212), .ref (q 213), .int 0, .int 0, .ref (q 214), .ref (q 215), .ref (q 216), .int 0, .int 0] (Nat.le_of_ble_eq_true rfl) 1) ci_X12_refuse qm_X12_81 ⟨Nat.le_of_ble_eq_true rfl, Nat.le_of_ble_eq_true rfl⟩ ⟨Nat.le_of_ble_eq_true rfl, Nat.le_of_ble_eq_true rfl⟩ [0] [1] rfl rfl rfl rfl rfl (by decide) 0 rfl rfl rfl hl.1 rfl (Nat.le_of_ble_eq_true rfl) dX12_ruled_17 (fun u_1 H locs hφ hP hD hS => ?_)
  have hP : va_P D vwCl [((q 201), .inl (k 1, 5340, .inl at0))] H := hP
  have hD : va_D A [((q 201), .inl (k 1, 5340, .inl at0))] := hD
  refine W.eq (g2 := F0 m 20 ls [.int (-1)]) rfl ?_
  exact EWi hx hb hr hlocks hS () rfl trivial nil_P nil_D dX12_ruled_20
set_option maxHeartbeats 4000000 in
set_option maxRecDepth 100000 in
theorem r_before (l : Launch) (D : va_G) (k : Nat → ClassId) (q : Nat → Nat) (a : Int32) (b : Int32) (c1 : Int32) : WD (σ := Unit) l yX12_before cX12_before 6 (some .int) 8 0 0 D k [.ref (q 200), .int a, .int b, .int c1] [((q 200), .inr (12, [.ref (q 201), .ref (q 202), .int 0, .long 0, .long 1, .ref (q 203), .ref (q 204), .ref (q 205), .ref (q 206), .ref (q 207), .int 0, .int 0, .int 0, .int 0, .int 0, .int 0, .int (-1), .int (-1), .int 0, .int 0, .int 0, .ref (q 208), .int 0, .int 0, .ref (q 209), .ref (q 210), .ref (q 211), .ref (q 212), .ref (q 213), .int 0, .int 0, .ref (q 214), .ref (q 215), .ref (q 216), .int 0, .int 0])), ((q 201), .inl (k 1, 5340, .inl at0))] (fun _ => some (.int (-1))) (fun _ => True) (fun _ => []) := by
  refine MW (by decide) (Nat.le_of_ble_eq_true rfl) (fun p e s m below meth c ls A hx hb hml hr hlocks hin hts hown hKK hP hD hS hA hl => ?_)
  have hK := hKK.1
  have hl : lv_has ls 6 [(0, .ref (q 200)), (1, .int a), (2, .int b), (3, .int c1)] := hl
  refine lv_aload_n hx hb dX12_before_0 rfl (lv_at hl 0 rfl) ?_
  refine lv_iload_n hx hb dX12_before_1 rfl (lv_at hl 1 rfl) ?_
  refine lv_iload_n hx hb dX12_before_2 rfl (lv_at hl 2 rfl) ?_
  refine CRV (As := [.int a, .int b]) (rest := []) hx hb hml hown hts hKK hP (m_areOrders l D k q a b) ci_X12_areOrders qm_X12_336 ⟨Nat.le_of_ble_eq_true rfl, Nat.le_of_ble_eq_true rfl⟩ ⟨Nat.le_of_ble_eq_true rfl, Nat.le_of_ble_eq_true rfl⟩ 0 rfl rfl rfl hl.1 rfl (Nat.le_of_ble_eq_true rfl) dX12_before_3 ?_
  refine lv_if_eq (tgt := 17) hx hb dX12_before_6 (by decide) (fun _ => ?_) (fun c => absurd (by decide) c)
  refine lv_aload_n hx hb dX12_before_17 rfl (lv_at hl 0 rfl) ?_
  refine lv_iconst (v := 1) hx hb dX12_before_18 (by decide) ?_
  refine CWV (As := [.int 1]) (rest := []) (wc := [((q 200), .inr (12, [.ref (q 201), .ref (q 202), .int 0, .long 0, .long 1, .ref (q 203), .ref (q 204), .ref (q 205), .ref (q 206), .ref (q 207), .int 0, .int 0, .int 0, .int 0, .int 0, .int 0, .int (-1), .int (-1), .int 0, .int 0, .int 0, .ref (q 208), .int 0, .int 0, .ref (q 209), .ref (q 210), .ref (q 211), .ref (q 212), .ref (q 213), .int 0, .int 0, .ref (q 214), .ref (q 215), .ref (q 216), .int 0, .int 0]))]) (wr := [((q 201), .inl (k 1, 5340, .inl at0))]) hx hb hml hown hts hKK hP hD hS hA (m_refuse l D k (q 200) [.ref (q 201), .ref (q 202), .int 0, .long 0, .long 1, .ref (q 203), .ref (q 204), .ref (q 205), .ref (q 206), .ref (q 207), .int 0, .int 0, .int 0, .int 0, .int 0, .int 0, .int (-1), .int (-1), .int 0, .int 0, .int 0, .ref (q 208), .int 0, .int 0, .ref (q 209), .ref (q 210), .ref (q 211), .ref (q 212), .ref (q 213), .int 0, .int 0, .ref (q 214), .ref (q 215), .ref (q 216), .int 0, .int 0] (Nat.le_of_ble_eq_true rfl) 1) ci_X12_refuse qm_X12_81 ⟨Nat.le_of_ble_eq_true rfl, Nat.le_of_ble_eq_true rfl⟩ ⟨Nat.le_of_ble_eq_true rfl, Nat.le_of_ble_eq_true rfl⟩ [0] [1] rfl rfl rfl rfl rfl (by decide) 0 rfl rfl rfl hl.1 rfl (Nat.le_of_ble_eq_true rfl) dX12_before_19 (fun u_1 H locs hφ hP hD hS => ?_)
  have hP : va_P D vwCl [((q 201), .inl (k 1, 5340, .inl at0))] H := hP
  have hD : va_D A [((q 201), .inl (k 1, 5340, .inl at0))] := hD
  refine W.eq (g2 := F0 m 22 ls [.int (-1)]) rfl ?_
  exact EWi hx hb hr hlocks hS () rfl trivial nil_P nil_D dX12_before_22
set_option maxHeartbeats 4000000 in
set_option maxRecDepth 100000 in
theorem r_oneForAll (l : Launch) (D : va_G) (k : Nat → ClassId) (q : Nat → Nat) (a : Int32) (b : Int32) : WD (σ := Unit) l yX12_oneForAll cX12_oneForAll 3 (some .int) 8 0 0 D k [.ref (q 200), .int a, .int b] [((q 200), .inr (12, [.ref (q 201), .ref (q 202), .int 0, .long 0, .long 1, .ref (q 203), .ref (q 204), .ref (q 205), .ref (q 206), .ref (q 207), .int 0, .int 0, .int 0, .int 0, .int 0, .int 0, .int (-1), .int (-1), .int 0, .int 0, .int 0, .ref (q 208), .int 0, .int 0, .ref (q 209), .ref (q 210), .ref (q 211), .ref (q 212), .ref (q 213), .int 0, .int 0, .ref (q 214), .ref (q 215), .ref (q 216), .int 0, .int 0])), ((q 201), .inl (k 1, 5340, .inl at0))] (fun _ => some (.int (-1))) (fun _ => True) (fun _ => []) := by
  refine MW (by decide) (Nat.le_of_ble_eq_true rfl) (fun p e s m below meth c ls A hx hb hml hr hlocks hin hts hown hKK hP hD hS hA hl => ?_)
  have hK := hKK.1
  have hl : lv_has ls 3 [(0, .ref (q 200)), (1, .int a), (2, .int b)] := hl
  refine lv_aload_n hx hb dX12_oneForAll_0 rfl (lv_at hl 0 rfl) ?_
  refine lv_iload_n hx hb dX12_oneForAll_1 rfl (lv_at hl 1 rfl) ?_
  refine lv_iload_n hx hb dX12_oneForAll_2 rfl (lv_at hl 2 rfl) ?_
  refine CRV (As := [.int a, .int b]) (rest := []) hx hb hml hown hts hKK hP (m_areOrders l D k q a b) ci_X12_areOrders qm_X12_336 ⟨Nat.le_of_ble_eq_true rfl, Nat.le_of_ble_eq_true rfl⟩ ⟨Nat.le_of_ble_eq_true rfl, Nat.le_of_ble_eq_true rfl⟩ 0 rfl rfl rfl hl.1 rfl (Nat.le_of_ble_eq_true rfl) dX12_oneForAll_3 ?_
  refine lv_if_ne (tgt := 15) hx hb dX12_oneForAll_6 (by decide) (fun c => absurd (by decide) c) (fun _ => ?_)
  refine lv_aload_n hx hb dX12_oneForAll_9 rfl (lv_at hl 0 rfl) ?_
  refine lv_iconst (v := 1) hx hb dX12_oneForAll_10 (by decide) ?_
  refine CWV (As := [.int 1]) (rest := []) (wc := [((q 200), .inr (12, [.ref (q 201), .ref (q 202), .int 0, .long 0, .long 1, .ref (q 203), .ref (q 204), .ref (q 205), .ref (q 206), .ref (q 207), .int 0, .int 0, .int 0, .int 0, .int 0, .int 0, .int (-1), .int (-1), .int 0, .int 0, .int 0, .ref (q 208), .int 0, .int 0, .ref (q 209), .ref (q 210), .ref (q 211), .ref (q 212), .ref (q 213), .int 0, .int 0, .ref (q 214), .ref (q 215), .ref (q 216), .int 0, .int 0]))]) (wr := [((q 201), .inl (k 1, 5340, .inl at0))]) hx hb hml hown hts hKK hP hD hS hA (m_refuse l D k (q 200) [.ref (q 201), .ref (q 202), .int 0, .long 0, .long 1, .ref (q 203), .ref (q 204), .ref (q 205), .ref (q 206), .ref (q 207), .int 0, .int 0, .int 0, .int 0, .int 0, .int 0, .int (-1), .int (-1), .int 0, .int 0, .int 0, .ref (q 208), .int 0, .int 0, .ref (q 209), .ref (q 210), .ref (q 211), .ref (q 212), .ref (q 213), .int 0, .int 0, .ref (q 214), .ref (q 215), .ref (q 216), .int 0, .int 0] (Nat.le_of_ble_eq_true rfl) 1) ci_X12_refuse qm_X12_81 ⟨Nat.le_of_ble_eq_true rfl, Nat.le_of_ble_eq_true rfl⟩ ⟨Nat.le_of_ble_eq_true rfl, Nat.le_of_ble_eq_true rfl⟩ [0] [1] rfl rfl rfl rfl rfl (by decide) 0 rfl rfl rfl hl.1 rfl (Nat.le_of_ble_eq_true rfl) dX12_oneForAll_11 (fun u_1 H locs hφ hP hD hS => ?_)
  have hP : va_P D vwCl [((q 201), .inl (k 1, 5340, .inl at0))] H := hP
  have hD : va_D A [((q 201), .inl (k 1, 5340, .inl at0))] := hD
  refine W.eq (g2 := F0 m 14 ls [.int (-1)]) rfl ?_
  exact EWi hx hb hr hlocks hS () rfl trivial nil_P nil_D dX12_oneForAll_14
set_option maxHeartbeats 4000000 in
set_option maxRecDepth 100000 in
theorem r_kth (l : Launch) (D : va_G) (k : Nat → ClassId) (q : Nat → Nat) (a : Int32) (b : Int32) : WD (σ := Unit) l yX12_kth cX12_kth 7 (some .int) 8 0 0 D k [.ref (q 200), .int a, .int b] [((q 200), .inr (12, [.ref (q 201), .ref (q 202), .int 0, .long 0, .long 1, .ref (q 203), .ref (q 204), .ref (q 205), .ref (q 206), .ref (q 207), .int 0, .int 0, .int 0, .int 0, .int 0, .int 0, .int (-1), .int (-1), .int 0, .int 0, .int 0, .ref (q 208), .int 0, .int 0, .ref (q 209), .ref (q 210), .ref (q 211), .ref (q 212), .ref (q 213), .int 0, .int 0, .ref (q 214), .ref (q 215), .ref (q 216), .int 0, .int 0])), ((q 201), .inl (k 1, 5340, .inl at0))] (fun _ => some (.int (-1))) (fun _ => True) (fun _ => []) := by
  refine MW (by decide) (Nat.le_of_ble_eq_true rfl) (fun p e s m below meth c ls A hx hb hml hr hlocks hin hts hown hKK hP hD hS hA hl => ?_)
  have hK := hKK.1
  have hl : lv_has ls 7 [(0, .ref (q 200)), (1, .int a), (2, .int b)] := hl
  refine lv_aload_n hx hb dX12_kth_0 rfl (lv_at hl 0 rfl) ?_
  refine lv_iload_n hx hb dX12_kth_1 rfl (lv_at hl 1 rfl) ?_
  refine CRV (As := [.int a]) (rest := []) hx hb hml hown hts hKK hP (m_isRock l D k q a) ci_X12_isRock qm_X12_243 ⟨Nat.le_of_ble_eq_true rfl, Nat.le_of_ble_eq_true rfl⟩ ⟨Nat.le_of_ble_eq_true rfl, Nat.le_of_ble_eq_true rfl⟩ 0 rfl rfl rfl hl.1 rfl (Nat.le_of_ble_eq_true rfl) dX12_kth_2 ?_
  refine lv_if_ne (tgt := 14) hx hb dX12_kth_5 (by decide) (fun c => absurd (by decide) c) (fun _ => ?_)
  refine lv_aload_n hx hb dX12_kth_8 rfl (lv_at hl 0 rfl) ?_
  refine lv_iconst (v := 1) hx hb dX12_kth_9 (by decide) ?_
  refine CWV (As := [.int 1]) (rest := []) (wc := [((q 200), .inr (12, [.ref (q 201), .ref (q 202), .int 0, .long 0, .long 1, .ref (q 203), .ref (q 204), .ref (q 205), .ref (q 206), .ref (q 207), .int 0, .int 0, .int 0, .int 0, .int 0, .int 0, .int (-1), .int (-1), .int 0, .int 0, .int 0, .ref (q 208), .int 0, .int 0, .ref (q 209), .ref (q 210), .ref (q 211), .ref (q 212), .ref (q 213), .int 0, .int 0, .ref (q 214), .ref (q 215), .ref (q 216), .int 0, .int 0]))]) (wr := [((q 201), .inl (k 1, 5340, .inl at0))]) hx hb hml hown hts hKK hP hD hS hA (m_refuse l D k (q 200) [.ref (q 201), .ref (q 202), .int 0, .long 0, .long 1, .ref (q 203), .ref (q 204), .ref (q 205), .ref (q 206), .ref (q 207), .int 0, .int 0, .int 0, .int 0, .int 0, .int 0, .int (-1), .int (-1), .int 0, .int 0, .int 0, .ref (q 208), .int 0, .int 0, .ref (q 209), .ref (q 210), .ref (q 211), .ref (q 212), .ref (q 213), .int 0, .int 0, .ref (q 214), .ref (q 215), .ref (q 216), .int 0, .int 0] (Nat.le_of_ble_eq_true rfl) 1) ci_X12_refuse qm_X12_81 ⟨Nat.le_of_ble_eq_true rfl, Nat.le_of_ble_eq_true rfl⟩ ⟨Nat.le_of_ble_eq_true rfl, Nat.le_of_ble_eq_true rfl⟩ [0] [1] rfl rfl rfl rfl rfl (by decide) 0 rfl rfl rfl hl.1 rfl (Nat.le_of_ble_eq_true rfl) dX12_kth_10 (fun u_1 H locs hφ hP hD hS => ?_)
  have hP : va_P D vwCl [((q 201), .inl (k 1, 5340, .inl at0))] H := hP
  have hD : va_D A [((q 201), .inl (k 1, 5340, .inl at0))] := hD
  refine W.eq (g2 := F0 m 13 ls [.int (-1)]) rfl ?_
  exact EWi hx hb hr hlocks hS () rfl trivial nil_P nil_D dX12_kth_13
set_option maxHeartbeats 4000000 in
set_option maxRecDepth 100000 in
theorem r_reign (l : Launch) (D : va_G) (k : Nat → ClassId) (q : Nat → Nat) (a : Int32) (b : Int32) : WD (σ := Unit) l yX12_reign cX12_reign 3 (some .int) 8 0 0 D k [.ref (q 200), .int a, .int b] [((q 200), .inr (12, [.ref (q 201), .ref (q 202), .int 0, .long 0, .long 1, .ref (q 203), .ref (q 204), .ref (q 205), .ref (q 206), .ref (q 207), .int 0, .int 0, .int 0, .int 0, .int 0, .int 0, .int (-1), .int (-1), .int 0, .int 0, .int 0, .ref (q 208), .int 0, .int 0, .ref (q 209), .ref (q 210), .ref (q 211), .ref (q 212), .ref (q 213), .int 0, .int 0, .ref (q 214), .ref (q 215), .ref (q 216), .int 0, .int 0])), ((q 201), .inl (k 1, 5340, .inl at0))] (fun _ => some (.int (-1))) (fun _ => True) (fun _ => []) := by
  refine MW (by decide) (Nat.le_of_ble_eq_true rfl) (fun p e s m below meth c ls A hx hb hml hr hlocks hin hts hown hKK hP hD hS hA hl => ?_)
  have hK := hKK.1
  have hl : lv_has ls 3 [(0, .ref (q 200)), (1, .int a), (2, .int b)] := hl
  refine lv_aload_n hx hb dX12_reign_0 rfl (lv_at hl 0 rfl) ?_
  refine lv_iload_n hx hb dX12_reign_1 rfl (lv_at hl 1 rfl) ?_
  refine CRV (As := [.int a]) (rest := []) hx hb hml hown hts hKK hP (m_isOrder l D k q a) ci_X12_isOrder qm_X12_324 ⟨Nat.le_of_ble_eq_true rfl, Nat.le_of_ble_eq_true rfl⟩ ⟨Nat.le_of_ble_eq_true rfl, Nat.le_of_ble_eq_true rfl⟩ 0 rfl rfl rfl hl.1 rfl (Nat.le_of_ble_eq_true rfl) dX12_reign_2 ?_
  refine lv_if_eq (tgt := 16) hx hb dX12_reign_5 (by decide) (fun _ => ?_) (fun c => absurd (by decide) c)
  refine lv_aload_n hx hb dX12_reign_16 rfl (lv_at hl 0 rfl) ?_
  refine lv_iconst (v := 1) hx hb dX12_reign_17 (by decide) ?_
  refine CWV (As := [.int 1]) (rest := []) (wc := [((q 200), .inr (12, [.ref (q 201), .ref (q 202), .int 0, .long 0, .long 1, .ref (q 203), .ref (q 204), .ref (q 205), .ref (q 206), .ref (q 207), .int 0, .int 0, .int 0, .int 0, .int 0, .int 0, .int (-1), .int (-1), .int 0, .int 0, .int 0, .ref (q 208), .int 0, .int 0, .ref (q 209), .ref (q 210), .ref (q 211), .ref (q 212), .ref (q 213), .int 0, .int 0, .ref (q 214), .ref (q 215), .ref (q 216), .int 0, .int 0]))]) (wr := [((q 201), .inl (k 1, 5340, .inl at0))]) hx hb hml hown hts hKK hP hD hS hA (m_refuse l D k (q 200) [.ref (q 201), .ref (q 202), .int 0, .long 0, .long 1, .ref (q 203), .ref (q 204), .ref (q 205), .ref (q 206), .ref (q 207), .int 0, .int 0, .int 0, .int 0, .int 0, .int 0, .int (-1), .int (-1), .int 0, .int 0, .int 0, .ref (q 208), .int 0, .int 0, .ref (q 209), .ref (q 210), .ref (q 211), .ref (q 212), .ref (q 213), .int 0, .int 0, .ref (q 214), .ref (q 215), .ref (q 216), .int 0, .int 0] (Nat.le_of_ble_eq_true rfl) 1) ci_X12_refuse qm_X12_81 ⟨Nat.le_of_ble_eq_true rfl, Nat.le_of_ble_eq_true rfl⟩ ⟨Nat.le_of_ble_eq_true rfl, Nat.le_of_ble_eq_true rfl⟩ [0] [1] rfl rfl rfl rfl rfl (by decide) 0 rfl rfl rfl hl.1 rfl (Nat.le_of_ble_eq_true rfl) dX12_reign_18 (fun u_1 H locs hφ hP hD hS => ?_)
  have hP : va_P D vwCl [((q 201), .inl (k 1, 5340, .inl at0))] H := hP
  have hD : va_D A [((q 201), .inl (k 1, 5340, .inl at0))] := hD
  refine W.eq (g2 := F0 m 21 ls [.int (-1)]) rfl ?_
  exact EWi hx hb hr hlocks hS () rfl trivial nil_P nil_D dX12_reign_21
set_option maxHeartbeats 4000000 in
set_option maxRecDepth 100000 in
theorem r_echo (l : Launch) (D : va_G) (k : Nat → ClassId) (q : Nat → Nat) (a : Int32) (b : Int32) (c1 : Int32) : WD (σ := Unit) l yX12_echo cX12_echo 4 (some .int) 8 0 0 D k [.ref (q 200), .int a, .int b, .int c1] [((q 200), .inr (12, [.ref (q 201), .ref (q 202), .int 0, .long 0, .long 1, .ref (q 203), .ref (q 204), .ref (q 205), .ref (q 206), .ref (q 207), .int 0, .int 0, .int 0, .int 0, .int 0, .int 0, .int (-1), .int (-1), .int 0, .int 0, .int 0, .ref (q 208), .int 0, .int 0, .ref (q 209), .ref (q 210), .ref (q 211), .ref (q 212), .ref (q 213), .int 0, .int 0, .ref (q 214), .ref (q 215), .ref (q 216), .int 0, .int 0])), ((q 201), .inl (k 1, 5340, .inl at0))] (fun _ => some (.int (-1))) (fun _ => True) (fun _ => []) := by
  refine MW (by decide) (Nat.le_of_ble_eq_true rfl) (fun p e s m below meth c ls A hx hb hml hr hlocks hin hts hown hKK hP hD hS hA hl => ?_)
  have hK := hKK.1
  have hl : lv_has ls 4 [(0, .ref (q 200)), (1, .int a), (2, .int b), (3, .int c1)] := hl
  refine lv_aload_n hx hb dX12_echo_0 rfl (lv_at hl 0 rfl) ?_
  refine lv_iload_n hx hb dX12_echo_1 rfl (lv_at hl 1 rfl) ?_
  refine lv_iload_n hx hb dX12_echo_2 rfl (lv_at hl 3 rfl) ?_
  refine CRV (As := [.int a, .int c1]) (rest := []) hx hb hml hown hts hKK hP (m_areTwo l D k q a c1) ci_X12_areTwo qm_X12_265 ⟨Nat.le_of_ble_eq_true rfl, Nat.le_of_ble_eq_true rfl⟩ ⟨Nat.le_of_ble_eq_true rfl, Nat.le_of_ble_eq_true rfl⟩ 0 rfl rfl rfl hl.1 rfl (Nat.le_of_ble_eq_true rfl) dX12_echo_3 ?_
  refine lv_if_eq (tgt := 30) hx hb dX12_echo_6 (by decide) (fun _ => ?_) (fun c => absurd (by decide) c)
  refine lv_aload_n hx hb dX12_echo_30 rfl (lv_at hl 0 rfl) ?_
  refine lv_iconst (v := 1) hx hb dX12_echo_31 (by decide) ?_
  refine CWV (As := [.int 1]) (rest := []) (wc := [((q 200), .inr (12, [.ref (q 201), .ref (q 202), .int 0, .long 0, .long 1, .ref (q 203), .ref (q 204), .ref (q 205), .ref (q 206), .ref (q 207), .int 0, .int 0, .int 0, .int 0, .int 0, .int 0, .int (-1), .int (-1), .int 0, .int 0, .int 0, .ref (q 208), .int 0, .int 0, .ref (q 209), .ref (q 210), .ref (q 211), .ref (q 212), .ref (q 213), .int 0, .int 0, .ref (q 214), .ref (q 215), .ref (q 216), .int 0, .int 0]))]) (wr := [((q 201), .inl (k 1, 5340, .inl at0))]) hx hb hml hown hts hKK hP hD hS hA (m_refuse l D k (q 200) [.ref (q 201), .ref (q 202), .int 0, .long 0, .long 1, .ref (q 203), .ref (q 204), .ref (q 205), .ref (q 206), .ref (q 207), .int 0, .int 0, .int 0, .int 0, .int 0, .int 0, .int (-1), .int (-1), .int 0, .int 0, .int 0, .ref (q 208), .int 0, .int 0, .ref (q 209), .ref (q 210), .ref (q 211), .ref (q 212), .ref (q 213), .int 0, .int 0, .ref (q 214), .ref (q 215), .ref (q 216), .int 0, .int 0] (Nat.le_of_ble_eq_true rfl) 1) ci_X12_refuse qm_X12_81 ⟨Nat.le_of_ble_eq_true rfl, Nat.le_of_ble_eq_true rfl⟩ ⟨Nat.le_of_ble_eq_true rfl, Nat.le_of_ble_eq_true rfl⟩ [0] [1] rfl rfl rfl rfl rfl (by decide) 0 rfl rfl rfl hl.1 rfl (Nat.le_of_ble_eq_true rfl) dX12_echo_32 (fun u_1 H locs hφ hP hD hS => ?_)
  have hP : va_P D vwCl [((q 201), .inl (k 1, 5340, .inl at0))] H := hP
  have hD : va_D A [((q 201), .inl (k 1, 5340, .inl at0))] := hD
  refine W.eq (g2 := F0 m 35 ls [.int (-1)]) rfl ?_
  exact EWi hx hb hr hlocks hS () rfl trivial nil_P nil_D dX12_echo_35
set_option maxHeartbeats 4000000 in
set_option maxRecDepth 100000 in
theorem r_answered (l : Launch) (D : va_G) (k : Nat → ClassId) (q : Nat → Nat) (a : Int32) (b : Int32) (c1 : Int32) : WD (σ := Unit) l yX12_answered cX12_answered 5 (some .int) 8 0 0 D k [.ref (q 200), .int a, .int b, .int c1] [((q 200), .inr (12, [.ref (q 201), .ref (q 202), .int 0, .long 0, .long 1, .ref (q 203), .ref (q 204), .ref (q 205), .ref (q 206), .ref (q 207), .int 0, .int 0, .int 0, .int 0, .int 0, .int 0, .int (-1), .int (-1), .int 0, .int 0, .int 0, .ref (q 208), .int 0, .int 0, .ref (q 209), .ref (q 210), .ref (q 211), .ref (q 212), .ref (q 213), .int 0, .int 0, .ref (q 214), .ref (q 215), .ref (q 216), .int 0, .int 0])), ((q 201), .inl (k 1, 5340, .inl at0))] (fun _ => some (.int (-1))) (fun _ => True) (fun _ => []) := by
  refine MW (by decide) (Nat.le_of_ble_eq_true rfl) (fun p e s m below meth c ls A hx hb hml hr hlocks hin hts hown hKK hP hD hS hA hl => ?_)
  have hK := hKK.1
  have hl : lv_has ls 5 [(0, .ref (q 200)), (1, .int a), (2, .int b), (3, .int c1)] := hl
  refine lv_aload_n hx hb dX12_answered_0 rfl (lv_at hl 0 rfl) ?_
  refine lv_iload_n hx hb dX12_answered_1 rfl (lv_at hl 1 rfl) ?_
  refine lv_iload_n hx hb dX12_answered_2 rfl (lv_at hl 2 rfl) ?_
  refine CRV (As := [.int a, .int b]) (rest := []) hx hb hml hown hts hKK hP (m_areTwo l D k q a b) ci_X12_areTwo qm_X12_265 ⟨Nat.le_of_ble_eq_true rfl, Nat.le_of_ble_eq_true rfl⟩ ⟨Nat.le_of_ble_eq_true rfl, Nat.le_of_ble_eq_true rfl⟩ 0 rfl rfl rfl hl.1 rfl (Nat.le_of_ble_eq_true rfl) dX12_answered_3 ?_
  refine lv_if_eq (tgt := 16) hx hb dX12_answered_6 (by decide) (fun _ => ?_) (fun c => absurd (by decide) c)
  refine lv_aload_n hx hb dX12_answered_16 rfl (lv_at hl 0 rfl) ?_
  refine lv_iconst (v := 1) hx hb dX12_answered_17 (by decide) ?_
  refine CWV (As := [.int 1]) (rest := []) (wc := [((q 200), .inr (12, [.ref (q 201), .ref (q 202), .int 0, .long 0, .long 1, .ref (q 203), .ref (q 204), .ref (q 205), .ref (q 206), .ref (q 207), .int 0, .int 0, .int 0, .int 0, .int 0, .int 0, .int (-1), .int (-1), .int 0, .int 0, .int 0, .ref (q 208), .int 0, .int 0, .ref (q 209), .ref (q 210), .ref (q 211), .ref (q 212), .ref (q 213), .int 0, .int 0, .ref (q 214), .ref (q 215), .ref (q 216), .int 0, .int 0]))]) (wr := [((q 201), .inl (k 1, 5340, .inl at0))]) hx hb hml hown hts hKK hP hD hS hA (m_refuse l D k (q 200) [.ref (q 201), .ref (q 202), .int 0, .long 0, .long 1, .ref (q 203), .ref (q 204), .ref (q 205), .ref (q 206), .ref (q 207), .int 0, .int 0, .int 0, .int 0, .int 0, .int 0, .int (-1), .int (-1), .int 0, .int 0, .int 0, .ref (q 208), .int 0, .int 0, .ref (q 209), .ref (q 210), .ref (q 211), .ref (q 212), .ref (q 213), .int 0, .int 0, .ref (q 214), .ref (q 215), .ref (q 216), .int 0, .int 0] (Nat.le_of_ble_eq_true rfl) 1) ci_X12_refuse qm_X12_81 ⟨Nat.le_of_ble_eq_true rfl, Nat.le_of_ble_eq_true rfl⟩ ⟨Nat.le_of_ble_eq_true rfl, Nat.le_of_ble_eq_true rfl⟩ [0] [1] rfl rfl rfl rfl rfl (by decide) 0 rfl rfl rfl hl.1 rfl (Nat.le_of_ble_eq_true rfl) dX12_answered_18 (fun u_1 H locs hφ hP hD hS => ?_)
  have hP : va_P D vwCl [((q 201), .inl (k 1, 5340, .inl at0))] H := hP
  have hD : va_D A [((q 201), .inl (k 1, 5340, .inl at0))] := hD
  refine W.eq (g2 := F0 m 21 ls [.int (-1)]) rfl ?_
  exact EWi hx hb hr hlocks hS () rfl trivial nil_P nil_D dX12_answered_21
set_option maxHeartbeats 4000000 in
set_option maxRecDepth 100000 in
theorem r_joint (l : Launch) (D : va_G) (k : Nat → ClassId) (q : Nat → Nat) (a : Int32) (b : Int32) : WD (σ := Unit) l yX12_joint cX12_joint 5 (some .int) 8 0 0 D k [.ref (q 200), .int a, .int b] [((q 200), .inr (12, [.ref (q 201), .ref (q 202), .int 0, .long 0, .long 1, .ref (q 203), .ref (q 204), .ref (q 205), .ref (q 206), .ref (q 207), .int 0, .int 0, .int 0, .int 0, .int 0, .int 0, .int (-1), .int (-1), .int 0, .int 0, .int 0, .ref (q 208), .int 0, .int 0, .ref (q 209), .ref (q 210), .ref (q 211), .ref (q 212), .ref (q 213), .int 0, .int 0, .ref (q 214), .ref (q 215), .ref (q 216), .int 0, .int 0])), ((q 201), .inl (k 1, 5340, .inl at0))] (fun _ => some (.int (-1))) (fun _ => True) (fun _ => []) := by
  refine MW (by decide) (Nat.le_of_ble_eq_true rfl) (fun p e s m below meth c ls A hx hb hml hr hlocks hin hts hown hKK hP hD hS hA hl => ?_)
  have hK := hKK.1
  have hl : lv_has ls 5 [(0, .ref (q 200)), (1, .int a), (2, .int b)] := hl
  refine lv_aload_n hx hb dX12_joint_0 rfl (lv_at hl 0 rfl) ?_
  refine lv_iload_n hx hb dX12_joint_1 rfl (lv_at hl 1 rfl) ?_
  refine CRV (As := [.int a]) (rest := []) hx hb hml hown hts hKK hP (m_isOrder l D k q a) ci_X12_isOrder qm_X12_324 ⟨Nat.le_of_ble_eq_true rfl, Nat.le_of_ble_eq_true rfl⟩ ⟨Nat.le_of_ble_eq_true rfl, Nat.le_of_ble_eq_true rfl⟩ 0 rfl rfl rfl hl.1 rfl (Nat.le_of_ble_eq_true rfl) dX12_joint_2 ?_
  refine lv_if_eq (tgt := 16) hx hb dX12_joint_5 (by decide) (fun _ => ?_) (fun c => absurd (by decide) c)
  refine lv_aload_n hx hb dX12_joint_16 rfl (lv_at hl 0 rfl) ?_
  refine lv_iconst (v := 1) hx hb dX12_joint_17 (by decide) ?_
  refine CWV (As := [.int 1]) (rest := []) (wc := [((q 200), .inr (12, [.ref (q 201), .ref (q 202), .int 0, .long 0, .long 1, .ref (q 203), .ref (q 204), .ref (q 205), .ref (q 206), .ref (q 207), .int 0, .int 0, .int 0, .int 0, .int 0, .int 0, .int (-1), .int (-1), .int 0, .int 0, .int 0, .ref (q 208), .int 0, .int 0, .ref (q 209), .ref (q 210), .ref (q 211), .ref (q 212), .ref (q 213), .int 0, .int 0, .ref (q 214), .ref (q 215), .ref (q 216), .int 0, .int 0]))]) (wr := [((q 201), .inl (k 1, 5340, .inl at0))]) hx hb hml hown hts hKK hP hD hS hA (m_refuse l D k (q 200) [.ref (q 201), .ref (q 202), .int 0, .long 0, .long 1, .ref (q 203), .ref (q 204), .ref (q 205), .ref (q 206), .ref (q 207), .int 0, .int 0, .int 0, .int 0, .int 0, .int 0, .int (-1), .int (-1), .int 0, .int 0, .int 0, .ref (q 208), .int 0, .int 0, .ref (q 209), .ref (q 210), .ref (q 211), .ref (q 212), .ref (q 213), .int 0, .int 0, .ref (q 214), .ref (q 215), .ref (q 216), .int 0, .int 0] (Nat.le_of_ble_eq_true rfl) 1) ci_X12_refuse qm_X12_81 ⟨Nat.le_of_ble_eq_true rfl, Nat.le_of_ble_eq_true rfl⟩ ⟨Nat.le_of_ble_eq_true rfl, Nat.le_of_ble_eq_true rfl⟩ [0] [1] rfl rfl rfl rfl rfl (by decide) 0 rfl rfl rfl hl.1 rfl (Nat.le_of_ble_eq_true rfl) dX12_joint_18 (fun u_1 H locs hφ hP hD hS => ?_)
  have hP : va_P D vwCl [((q 201), .inl (k 1, 5340, .inl at0))] H := hP
  have hD : va_D A [((q 201), .inl (k 1, 5340, .inl at0))] := hD
  refine W.eq (g2 := F0 m 21 ls [.int (-1)]) rfl ?_
  exact EWi hx hb hr hlocks hS () rfl trivial nil_P nil_D dX12_joint_21
set_option maxHeartbeats 4000000 in
set_option maxRecDepth 100000 in
theorem r_confirmed (l : Launch) (D : va_G) (k : Nat → ClassId) (q : Nat → Nat) (a : Int32) (b : Int32) : WD (σ := Unit) l yX12_confirmed cX12_confirmed 6 (some .int) 8 0 0 D k [.ref (q 200), .int a, .int b] [((q 200), .inr (12, [.ref (q 201), .ref (q 202), .int 0, .long 0, .long 1, .ref (q 203), .ref (q 204), .ref (q 205), .ref (q 206), .ref (q 207), .int 0, .int 0, .int 0, .int 0, .int 0, .int 0, .int (-1), .int (-1), .int 0, .int 0, .int 0, .ref (q 208), .int 0, .int 0, .ref (q 209), .ref (q 210), .ref (q 211), .ref (q 212), .ref (q 213), .int 0, .int 0, .ref (q 214), .ref (q 215), .ref (q 216), .int 0, .int 0])), ((q 201), .inl (k 1, 5340, .inl at0))] (fun _ => some (.int (-1))) (fun _ => True) (fun _ => []) := by
  refine MW (by decide) (Nat.le_of_ble_eq_true rfl) (fun p e s m below meth c ls A hx hb hml hr hlocks hin hts hown hKK hP hD hS hA hl => ?_)
  have hK := hKK.1
  have hl : lv_has ls 6 [(0, .ref (q 200)), (1, .int a), (2, .int b)] := hl
  refine lv_aload_n hx hb dX12_confirmed_0 rfl (lv_at hl 0 rfl) ?_
  refine lv_iload_n hx hb dX12_confirmed_1 rfl (lv_at hl 1 rfl) ?_
  refine CRV (As := [.int a]) (rest := []) hx hb hml hown hts hKK hP (m_isOrder l D k q a) ci_X12_isOrder qm_X12_324 ⟨Nat.le_of_ble_eq_true rfl, Nat.le_of_ble_eq_true rfl⟩ ⟨Nat.le_of_ble_eq_true rfl, Nat.le_of_ble_eq_true rfl⟩ 0 rfl rfl rfl hl.1 rfl (Nat.le_of_ble_eq_true rfl) dX12_confirmed_2 ?_
  refine lv_if_eq (tgt := 16) hx hb dX12_confirmed_5 (by decide) (fun _ => ?_) (fun c => absurd (by decide) c)
  refine lv_aload_n hx hb dX12_confirmed_16 rfl (lv_at hl 0 rfl) ?_
  refine lv_iconst (v := 1) hx hb dX12_confirmed_17 (by decide) ?_
  refine CWV (As := [.int 1]) (rest := []) (wc := [((q 200), .inr (12, [.ref (q 201), .ref (q 202), .int 0, .long 0, .long 1, .ref (q 203), .ref (q 204), .ref (q 205), .ref (q 206), .ref (q 207), .int 0, .int 0, .int 0, .int 0, .int 0, .int 0, .int (-1), .int (-1), .int 0, .int 0, .int 0, .ref (q 208), .int 0, .int 0, .ref (q 209), .ref (q 210), .ref (q 211), .ref (q 212), .ref (q 213), .int 0, .int 0, .ref (q 214), .ref (q 215), .ref (q 216), .int 0, .int 0]))]) (wr := [((q 201), .inl (k 1, 5340, .inl at0))]) hx hb hml hown hts hKK hP hD hS hA (m_refuse l D k (q 200) [.ref (q 201), .ref (q 202), .int 0, .long 0, .long 1, .ref (q 203), .ref (q 204), .ref (q 205), .ref (q 206), .ref (q 207), .int 0, .int 0, .int 0, .int 0, .int 0, .int 0, .int (-1), .int (-1), .int 0, .int 0, .int 0, .ref (q 208), .int 0, .int 0, .ref (q 209), .ref (q 210), .ref (q 211), .ref (q 212), .ref (q 213), .int 0, .int 0, .ref (q 214), .ref (q 215), .ref (q 216), .int 0, .int 0] (Nat.le_of_ble_eq_true rfl) 1) ci_X12_refuse qm_X12_81 ⟨Nat.le_of_ble_eq_true rfl, Nat.le_of_ble_eq_true rfl⟩ ⟨Nat.le_of_ble_eq_true rfl, Nat.le_of_ble_eq_true rfl⟩ [0] [1] rfl rfl rfl rfl rfl (by decide) 0 rfl rfl rfl hl.1 rfl (Nat.le_of_ble_eq_true rfl) dX12_confirmed_18 (fun u_1 H locs hφ hP hD hS => ?_)
  have hP : va_P D vwCl [((q 201), .inl (k 1, 5340, .inl at0))] H := hP
  have hD : va_D A [((q 201), .inl (k 1, 5340, .inl at0))] := hD
  refine W.eq (g2 := F0 m 21 ls [.int (-1)]) rfl ?_
  exact EWi hx hb hr hlocks hS () rfl trivial nil_P nil_D dX12_confirmed_21
set_option maxHeartbeats 4000000 in
set_option maxRecDepth 100000 in
theorem r_sure (l : Launch) (D : va_G) (k : Nat → ClassId) (q : Nat → Nat) (a : Int32) (b : Int32) (c1 : Int32) : WD (σ := Unit) l yX12_sure cX12_sure 4 (some .int) 8 0 0 D k [.ref (q 200), .int a, .int b, .int c1] [((q 200), .inr (12, [.ref (q 201), .ref (q 202), .int 0, .long 0, .long 1, .ref (q 203), .ref (q 204), .ref (q 205), .ref (q 206), .ref (q 207), .int 0, .int 0, .int 0, .int 0, .int 0, .int 0, .int (-1), .int (-1), .int 0, .int 0, .int 0, .ref (q 208), .int 0, .int 0, .ref (q 209), .ref (q 210), .ref (q 211), .ref (q 212), .ref (q 213), .int 0, .int 0, .ref (q 214), .ref (q 215), .ref (q 216), .int 0, .int 0])), ((q 201), .inl (k 1, 5340, .inl at0))] (fun _ => some (.int (-1))) (fun _ => True) (fun _ => []) := by
  refine MW (by decide) (Nat.le_of_ble_eq_true rfl) (fun p e s m below meth c ls A hx hb hml hr hlocks hin hts hown hKK hP hD hS hA hl => ?_)
  have hK := hKK.1
  have hl : lv_has ls 4 [(0, .ref (q 200)), (1, .int a), (2, .int b), (3, .int c1)] := hl
  refine lv_aload_n hx hb dX12_sure_0 rfl (lv_at hl 0 rfl) ?_
  refine lv_iload_n hx hb dX12_sure_1 rfl (lv_at hl 1 rfl) ?_
  refine CRV (As := [.int a]) (rest := []) hx hb hml hown hts hKK hP (m_isOrder l D k q a) ci_X12_isOrder qm_X12_324 ⟨Nat.le_of_ble_eq_true rfl, Nat.le_of_ble_eq_true rfl⟩ ⟨Nat.le_of_ble_eq_true rfl, Nat.le_of_ble_eq_true rfl⟩ 0 rfl rfl rfl hl.1 rfl (Nat.le_of_ble_eq_true rfl) dX12_sure_2 ?_
  refine lv_if_eq (tgt := 17) hx hb dX12_sure_5 (by decide) (fun _ => ?_) (fun c => absurd (by decide) c)
  refine lv_aload_n hx hb dX12_sure_17 rfl (lv_at hl 0 rfl) ?_
  refine lv_iconst (v := 1) hx hb dX12_sure_18 (by decide) ?_
  refine CWV (As := [.int 1]) (rest := []) (wc := [((q 200), .inr (12, [.ref (q 201), .ref (q 202), .int 0, .long 0, .long 1, .ref (q 203), .ref (q 204), .ref (q 205), .ref (q 206), .ref (q 207), .int 0, .int 0, .int 0, .int 0, .int 0, .int 0, .int (-1), .int (-1), .int 0, .int 0, .int 0, .ref (q 208), .int 0, .int 0, .ref (q 209), .ref (q 210), .ref (q 211), .ref (q 212), .ref (q 213), .int 0, .int 0, .ref (q 214), .ref (q 215), .ref (q 216), .int 0, .int 0]))]) (wr := [((q 201), .inl (k 1, 5340, .inl at0))]) hx hb hml hown hts hKK hP hD hS hA (m_refuse l D k (q 200) [.ref (q 201), .ref (q 202), .int 0, .long 0, .long 1, .ref (q 203), .ref (q 204), .ref (q 205), .ref (q 206), .ref (q 207), .int 0, .int 0, .int 0, .int 0, .int 0, .int 0, .int (-1), .int (-1), .int 0, .int 0, .int 0, .ref (q 208), .int 0, .int 0, .ref (q 209), .ref (q 210), .ref (q 211), .ref (q 212), .ref (q 213), .int 0, .int 0, .ref (q 214), .ref (q 215), .ref (q 216), .int 0, .int 0] (Nat.le_of_ble_eq_true rfl) 1) ci_X12_refuse qm_X12_81 ⟨Nat.le_of_ble_eq_true rfl, Nat.le_of_ble_eq_true rfl⟩ ⟨Nat.le_of_ble_eq_true rfl, Nat.le_of_ble_eq_true rfl⟩ [0] [1] rfl rfl rfl rfl rfl (by decide) 0 rfl rfl rfl hl.1 rfl (Nat.le_of_ble_eq_true rfl) dX12_sure_19 (fun u_1 H locs hφ hP hD hS => ?_)
  have hP : va_P D vwCl [((q 201), .inl (k 1, 5340, .inl at0))] H := hP
  have hD : va_D A [((q 201), .inl (k 1, 5340, .inl at0))] := hD
  refine W.eq (g2 := F0 m 22 ls [.int (-1)]) rfl ?_
  exact EWi hx hb hr hlocks hS () rfl trivial nil_P nil_D dX12_sure_22
set_option maxHeartbeats 4000000 in
set_option maxRecDepth 100000 in
theorem r_cheap (l : Launch) (D : va_G) (k : Nat → ClassId) (q : Nat → Nat) (a : Int32) (b : Int32) (c1 : Int32) (d1 : Int32) : WD (σ := Unit) l yX12_cheap cX12_cheap 10 (some .int) 8 0 0 D k [.ref (q 200), .int a, .int b, .int c1, .int d1] [((q 200), .inr (12, [.ref (q 201), .ref (q 202), .int 0, .long 0, .long 1, .ref (q 203), .ref (q 204), .ref (q 205), .ref (q 206), .ref (q 207), .int 0, .int 0, .int 0, .int 0, .int 0, .int 0, .int (-1), .int (-1), .int 0, .int 0, .int 0, .ref (q 208), .int 0, .int 0, .ref (q 209), .ref (q 210), .ref (q 211), .ref (q 212), .ref (q 213), .int 0, .int 0, .ref (q 214), .ref (q 215), .ref (q 216), .int 0, .int 0])), ((q 201), .inl (k 1, 5340, .inl at0))] (fun _ => some (.int (-1))) (fun _ => True) (fun _ => []) := by
  refine MW (by decide) (Nat.le_of_ble_eq_true rfl) (fun p e s m below meth c ls A hx hb hml hr hlocks hin hts hown hKK hP hD hS hA hl => ?_)
  have hK := hKK.1
  have hl : lv_has ls 10 [(0, .ref (q 200)), (1, .int a), (2, .int b), (3, .int c1), (4, .int d1)] := hl
  refine lv_aload_n hx hb dX12_cheap_0 rfl (lv_at hl 0 rfl) ?_
  refine lv_iload_n hx hb dX12_cheap_1 rfl (lv_at hl 1 rfl) ?_
  refine lv_iload_n hx hb dX12_cheap_2 rfl (lv_at hl 2 rfl) ?_
  refine lv_iload_n hx hb dX12_cheap_3 rfl (lv_at hl 3 rfl) ?_
  refine CRV (As := [.int a, .int b, .int c1]) (rest := []) hx hb hml hown hts hKK hP (m_isSent l D k q a b c1) ci_X12_isSent qm_X12_277 ⟨Nat.le_of_ble_eq_true rfl, Nat.le_of_ble_eq_true rfl⟩ ⟨Nat.le_of_ble_eq_true rfl, Nat.le_of_ble_eq_true rfl⟩ 0 rfl rfl rfl hl.1 rfl (Nat.le_of_ble_eq_true rfl) dX12_cheap_4 ?_
  refine lv_if_eq (tgt := 23) hx hb dX12_cheap_7 (by decide) (fun _ => ?_) (fun c => absurd (by decide) c)
  refine lv_aload_n hx hb dX12_cheap_23 rfl (lv_at hl 0 rfl) ?_
  refine lv_iconst (v := 1) hx hb dX12_cheap_24 (by decide) ?_
  refine CWV (As := [.int 1]) (rest := []) (wc := [((q 200), .inr (12, [.ref (q 201), .ref (q 202), .int 0, .long 0, .long 1, .ref (q 203), .ref (q 204), .ref (q 205), .ref (q 206), .ref (q 207), .int 0, .int 0, .int 0, .int 0, .int 0, .int 0, .int (-1), .int (-1), .int 0, .int 0, .int 0, .ref (q 208), .int 0, .int 0, .ref (q 209), .ref (q 210), .ref (q 211), .ref (q 212), .ref (q 213), .int 0, .int 0, .ref (q 214), .ref (q 215), .ref (q 216), .int 0, .int 0]))]) (wr := [((q 201), .inl (k 1, 5340, .inl at0))]) hx hb hml hown hts hKK hP hD hS hA (m_refuse l D k (q 200) [.ref (q 201), .ref (q 202), .int 0, .long 0, .long 1, .ref (q 203), .ref (q 204), .ref (q 205), .ref (q 206), .ref (q 207), .int 0, .int 0, .int 0, .int 0, .int 0, .int 0, .int (-1), .int (-1), .int 0, .int 0, .int 0, .ref (q 208), .int 0, .int 0, .ref (q 209), .ref (q 210), .ref (q 211), .ref (q 212), .ref (q 213), .int 0, .int 0, .ref (q 214), .ref (q 215), .ref (q 216), .int 0, .int 0] (Nat.le_of_ble_eq_true rfl) 1) ci_X12_refuse qm_X12_81 ⟨Nat.le_of_ble_eq_true rfl, Nat.le_of_ble_eq_true rfl⟩ ⟨Nat.le_of_ble_eq_true rfl, Nat.le_of_ble_eq_true rfl⟩ [0] [1] rfl rfl rfl rfl rfl (by decide) 0 rfl rfl rfl hl.1 rfl (Nat.le_of_ble_eq_true rfl) dX12_cheap_25 (fun u_1 H locs hφ hP hD hS => ?_)
  have hP : va_P D vwCl [((q 201), .inl (k 1, 5340, .inl at0))] H := hP
  have hD : va_D A [((q 201), .inl (k 1, 5340, .inl at0))] := hD
  refine W.eq (g2 := F0 m 28 ls [.int (-1)]) rfl ?_
  exact EWi hx hb hr hlocks hS () rfl trivial nil_P nil_D dX12_cheap_28
set_option maxHeartbeats 4000000 in
set_option maxRecDepth 100000 in
theorem r_price (l : Launch) (D : va_G) (k : Nat → ClassId) (q : Nat → Nat) (a : Int32) (b : Int32) : WD (σ := Unit) l yX12_price cX12_price 3 (some .int) 8 0 0 D k [.ref (q 200), .int a, .int b] [((q 200), .inr (12, [.ref (q 201), .ref (q 202), .int 0, .long 0, .long 1, .ref (q 203), .ref (q 204), .ref (q 205), .ref (q 206), .ref (q 207), .int 0, .int 0, .int 0, .int 0, .int 0, .int 0, .int (-1), .int (-1), .int 0, .int 0, .int 0, .ref (q 208), .int 0, .int 0, .ref (q 209), .ref (q 210), .ref (q 211), .ref (q 212), .ref (q 213), .int 0, .int 0, .ref (q 214), .ref (q 215), .ref (q 216), .int 0, .int 0])), ((q 201), .inl (k 1, 5340, .inl at0))] (fun _ => some (.int (-1))) (fun _ => True) (fun _ => []) := by
  refine MW (by decide) (Nat.le_of_ble_eq_true rfl) (fun p e s m below meth c ls A hx hb hml hr hlocks hin hts hown hKK hP hD hS hA hl => ?_)
  have hK := hKK.1
  have hl : lv_has ls 3 [(0, .ref (q 200)), (1, .int a), (2, .int b)] := hl
  refine lv_aload_n hx hb dX12_price_0 rfl (lv_at hl 0 rfl) ?_
  refine lv_iload_n hx hb dX12_price_1 rfl (lv_at hl 1 rfl) ?_
  refine CRV (As := [.int a]) (rest := []) hx hb hml hown hts hKK hP (m_isRock l D k q a) ci_X12_isRock qm_X12_243 ⟨Nat.le_of_ble_eq_true rfl, Nat.le_of_ble_eq_true rfl⟩ ⟨Nat.le_of_ble_eq_true rfl, Nat.le_of_ble_eq_true rfl⟩ 0 rfl rfl rfl hl.1 rfl (Nat.le_of_ble_eq_true rfl) dX12_price_2 ?_
  refine lv_if_eq (tgt := 28) hx hb dX12_price_5 (by decide) (fun _ => ?_) (fun c => absurd (by decide) c)
  refine lv_aload_n hx hb dX12_price_28 rfl (lv_at hl 0 rfl) ?_
  refine lv_iconst (v := 1) hx hb dX12_price_29 (by decide) ?_
  refine CWV (As := [.int 1]) (rest := []) (wc := [((q 200), .inr (12, [.ref (q 201), .ref (q 202), .int 0, .long 0, .long 1, .ref (q 203), .ref (q 204), .ref (q 205), .ref (q 206), .ref (q 207), .int 0, .int 0, .int 0, .int 0, .int 0, .int 0, .int (-1), .int (-1), .int 0, .int 0, .int 0, .ref (q 208), .int 0, .int 0, .ref (q 209), .ref (q 210), .ref (q 211), .ref (q 212), .ref (q 213), .int 0, .int 0, .ref (q 214), .ref (q 215), .ref (q 216), .int 0, .int 0]))]) (wr := [((q 201), .inl (k 1, 5340, .inl at0))]) hx hb hml hown hts hKK hP hD hS hA (m_refuse l D k (q 200) [.ref (q 201), .ref (q 202), .int 0, .long 0, .long 1, .ref (q 203), .ref (q 204), .ref (q 205), .ref (q 206), .ref (q 207), .int 0, .int 0, .int 0, .int 0, .int 0, .int 0, .int (-1), .int (-1), .int 0, .int 0, .int 0, .ref (q 208), .int 0, .int 0, .ref (q 209), .ref (q 210), .ref (q 211), .ref (q 212), .ref (q 213), .int 0, .int 0, .ref (q 214), .ref (q 215), .ref (q 216), .int 0, .int 0] (Nat.le_of_ble_eq_true rfl) 1) ci_X12_refuse qm_X12_81 ⟨Nat.le_of_ble_eq_true rfl, Nat.le_of_ble_eq_true rfl⟩ ⟨Nat.le_of_ble_eq_true rfl, Nat.le_of_ble_eq_true rfl⟩ [0] [1] rfl rfl rfl rfl rfl (by decide) 0 rfl rfl rfl hl.1 rfl (Nat.le_of_ble_eq_true rfl) dX12_price_30 (fun u_1 H locs hφ hP hD hS => ?_)
  have hP : va_P D vwCl [((q 201), .inl (k 1, 5340, .inl at0))] H := hP
  have hD : va_D A [((q 201), .inl (k 1, 5340, .inl at0))] := hD
  refine W.eq (g2 := F0 m 33 ls [.int (-1)]) rfl ?_
  exact EWi hx hb hr hlocks hS () rfl trivial nil_P nil_D dX12_price_33
set_option maxHeartbeats 4000000 in
set_option maxRecDepth 100000 in
theorem r_priceSeen (l : Launch) (D : va_G) (k : Nat → ClassId) (q : Nat → Nat) (a : Int32) (b : Int32) (c1 : Int32) : WD (σ := Unit) l yX12_priceSeen cX12_priceSeen 5 (some .int) 8 0 0 D k [.ref (q 200), .int a, .int b, .int c1] [((q 200), .inr (12, [.ref (q 201), .ref (q 202), .int 0, .long 0, .long 1, .ref (q 203), .ref (q 204), .ref (q 205), .ref (q 206), .ref (q 207), .int 0, .int 0, .int 0, .int 0, .int 0, .int 0, .int (-1), .int (-1), .int 0, .int 0, .int 0, .ref (q 208), .int 0, .int 0, .ref (q 209), .ref (q 210), .ref (q 211), .ref (q 212), .ref (q 213), .int 0, .int 0, .ref (q 214), .ref (q 215), .ref (q 216), .int 0, .int 0])), ((q 201), .inl (k 1, 5340, .inl at0))] (fun _ => some (.int (-1))) (fun _ => True) (fun _ => []) := by
  refine MW (by decide) (Nat.le_of_ble_eq_true rfl) (fun p e s m below meth c ls A hx hb hml hr hlocks hin hts hown hKK hP hD hS hA hl => ?_)
  have hK := hKK.1
  have hl : lv_has ls 5 [(0, .ref (q 200)), (1, .int a), (2, .int b), (3, .int c1)] := hl
  refine lv_aload_n hx hb dX12_priceSeen_0 rfl (lv_at hl 0 rfl) ?_
  refine lv_iload_n hx hb dX12_priceSeen_1 rfl (lv_at hl 1 rfl) ?_
  refine lv_iload_n hx hb dX12_priceSeen_2 rfl (lv_at hl 3 rfl) ?_
  refine lv_iload_n hx hb dX12_priceSeen_3 rfl (lv_at hl 2 rfl) ?_
  refine CRV (As := [.int a, .int c1, .int b]) (rest := []) hx hb hml hown hts hKK hP (m_isSent l D k q a c1 b) ci_X12_isSent qm_X12_277 ⟨Nat.le_of_ble_eq_true rfl, Nat.le_of_ble_eq_true rfl⟩ ⟨Nat.le_of_ble_eq_true rfl, Nat.le_of_ble_eq_true rfl⟩ 0 rfl rfl rfl hl.1 rfl (Nat.le_of_ble_eq_true rfl) dX12_priceSeen_4 ?_
  refine lv_if_ne (tgt := 16) hx hb dX12_priceSeen_7 (by decide) (fun c => absurd (by decide) c) (fun _ => ?_)
  refine lv_aload_n hx hb dX12_priceSeen_10 rfl (lv_at hl 0 rfl) ?_
  refine lv_iconst (v := 1) hx hb dX12_priceSeen_11 (by decide) ?_
  refine CWV (As := [.int 1]) (rest := []) (wc := [((q 200), .inr (12, [.ref (q 201), .ref (q 202), .int 0, .long 0, .long 1, .ref (q 203), .ref (q 204), .ref (q 205), .ref (q 206), .ref (q 207), .int 0, .int 0, .int 0, .int 0, .int 0, .int 0, .int (-1), .int (-1), .int 0, .int 0, .int 0, .ref (q 208), .int 0, .int 0, .ref (q 209), .ref (q 210), .ref (q 211), .ref (q 212), .ref (q 213), .int 0, .int 0, .ref (q 214), .ref (q 215), .ref (q 216), .int 0, .int 0]))]) (wr := [((q 201), .inl (k 1, 5340, .inl at0))]) hx hb hml hown hts hKK hP hD hS hA (m_refuse l D k (q 200) [.ref (q 201), .ref (q 202), .int 0, .long 0, .long 1, .ref (q 203), .ref (q 204), .ref (q 205), .ref (q 206), .ref (q 207), .int 0, .int 0, .int 0, .int 0, .int 0, .int 0, .int (-1), .int (-1), .int 0, .int 0, .int 0, .ref (q 208), .int 0, .int 0, .ref (q 209), .ref (q 210), .ref (q 211), .ref (q 212), .ref (q 213), .int 0, .int 0, .ref (q 214), .ref (q 215), .ref (q 216), .int 0, .int 0] (Nat.le_of_ble_eq_true rfl) 1) ci_X12_refuse qm_X12_81 ⟨Nat.le_of_ble_eq_true rfl, Nat.le_of_ble_eq_true rfl⟩ ⟨Nat.le_of_ble_eq_true rfl, Nat.le_of_ble_eq_true rfl⟩ [0] [1] rfl rfl rfl rfl rfl (by decide) 0 rfl rfl rfl hl.1 rfl (Nat.le_of_ble_eq_true rfl) dX12_priceSeen_12 (fun u_1 H locs hφ hP hD hS => ?_)
  have hP : va_P D vwCl [((q 201), .inl (k 1, 5340, .inl at0))] H := hP
  have hD : va_D A [((q 201), .inl (k 1, 5340, .inl at0))] := hD
  refine W.eq (g2 := F0 m 15 ls [.int (-1)]) rfl ?_
  exact EWi hx hb hr hlocks hS () rfl trivial nil_P nil_D dX12_priceSeen_15
set_option maxHeartbeats 4000000 in
set_option maxRecDepth 100000 in
theorem r_gain (l : Launch) (D : va_G) (k : Nat → ClassId) (q : Nat → Nat) (a : Int32) (b : Int32) (c1 : Int32) : WD (σ := Unit) l yX12_gain cX12_gain 4 (some .int) 8 0 0 D k [.ref (q 200), .int a, .int b, .int c1] [((q 200), .inr (12, [.ref (q 201), .ref (q 202), .int 0, .long 0, .long 1, .ref (q 203), .ref (q 204), .ref (q 205), .ref (q 206), .ref (q 207), .int 0, .int 0, .int 0, .int 0, .int 0, .int 0, .int (-1), .int (-1), .int 0, .int 0, .int 0, .ref (q 208), .int 0, .int 0, .ref (q 209), .ref (q 210), .ref (q 211), .ref (q 212), .ref (q 213), .int 0, .int 0, .ref (q 214), .ref (q 215), .ref (q 216), .int 0, .int 0])), ((q 201), .inl (k 1, 5340, .inl at0))] (fun _ => some (.int (-1))) (fun _ => True) (fun _ => []) := by
  refine MW (by decide) (Nat.le_of_ble_eq_true rfl) (fun p e s m below meth c ls A hx hb hml hr hlocks hin hts hown hKK hP hD hS hA hl => ?_)
  have hK := hKK.1
  have hl : lv_has ls 4 [(0, .ref (q 200)), (1, .int a), (2, .int b), (3, .int c1)] := hl
  refine lv_aload_n hx hb dX12_gain_0 rfl (lv_at hl 0 rfl) ?_
  refine lv_iload_n hx hb dX12_gain_1 rfl (lv_at hl 1 rfl) ?_
  refine lv_iload_n hx hb dX12_gain_2 rfl (lv_at hl 3 rfl) ?_
  refine CRV (As := [.int a, .int c1]) (rest := []) hx hb hml hown hts hKK hP (m_areTwo l D k q a c1) ci_X12_areTwo qm_X12_265 ⟨Nat.le_of_ble_eq_true rfl, Nat.le_of_ble_eq_true rfl⟩ ⟨Nat.le_of_ble_eq_true rfl, Nat.le_of_ble_eq_true rfl⟩ 0 rfl rfl rfl hl.1 rfl (Nat.le_of_ble_eq_true rfl) dX12_gain_3 ?_
  refine lv_if_eq (tgt := 30) hx hb dX12_gain_6 (by decide) (fun _ => ?_) (fun c => absurd (by decide) c)
  refine lv_aload_n hx hb dX12_gain_30 rfl (lv_at hl 0 rfl) ?_
  refine lv_iconst (v := 1) hx hb dX12_gain_31 (by decide) ?_
  refine CWV (As := [.int 1]) (rest := []) (wc := [((q 200), .inr (12, [.ref (q 201), .ref (q 202), .int 0, .long 0, .long 1, .ref (q 203), .ref (q 204), .ref (q 205), .ref (q 206), .ref (q 207), .int 0, .int 0, .int 0, .int 0, .int 0, .int 0, .int (-1), .int (-1), .int 0, .int 0, .int 0, .ref (q 208), .int 0, .int 0, .ref (q 209), .ref (q 210), .ref (q 211), .ref (q 212), .ref (q 213), .int 0, .int 0, .ref (q 214), .ref (q 215), .ref (q 216), .int 0, .int 0]))]) (wr := [((q 201), .inl (k 1, 5340, .inl at0))]) hx hb hml hown hts hKK hP hD hS hA (m_refuse l D k (q 200) [.ref (q 201), .ref (q 202), .int 0, .long 0, .long 1, .ref (q 203), .ref (q 204), .ref (q 205), .ref (q 206), .ref (q 207), .int 0, .int 0, .int 0, .int 0, .int 0, .int 0, .int (-1), .int (-1), .int 0, .int 0, .int 0, .ref (q 208), .int 0, .int 0, .ref (q 209), .ref (q 210), .ref (q 211), .ref (q 212), .ref (q 213), .int 0, .int 0, .ref (q 214), .ref (q 215), .ref (q 216), .int 0, .int 0] (Nat.le_of_ble_eq_true rfl) 1) ci_X12_refuse qm_X12_81 ⟨Nat.le_of_ble_eq_true rfl, Nat.le_of_ble_eq_true rfl⟩ ⟨Nat.le_of_ble_eq_true rfl, Nat.le_of_ble_eq_true rfl⟩ [0] [1] rfl rfl rfl rfl rfl (by decide) 0 rfl rfl rfl hl.1 rfl (Nat.le_of_ble_eq_true rfl) dX12_gain_32 (fun u_1 H locs hφ hP hD hS => ?_)
  have hP : va_P D vwCl [((q 201), .inl (k 1, 5340, .inl at0))] H := hP
  have hD : va_D A [((q 201), .inl (k 1, 5340, .inl at0))] := hD
  refine W.eq (g2 := F0 m 35 ls [.int (-1)]) rfl ?_
  exact EWi hx hb hr hlocks hS () rfl trivial nil_P nil_D dX12_gain_35
set_option maxHeartbeats 4000000 in
set_option maxRecDepth 100000 in
theorem r_hoped (l : Launch) (D : va_G) (k : Nat → ClassId) (q : Nat → Nat) (a : Int32) (b : Int32) (c1 : Int32) : WD (σ := Unit) l yX12_hoped cX12_hoped 5 (some .int) 8 0 0 D k [.ref (q 200), .int a, .int b, .int c1] [((q 200), .inr (12, [.ref (q 201), .ref (q 202), .int 0, .long 0, .long 1, .ref (q 203), .ref (q 204), .ref (q 205), .ref (q 206), .ref (q 207), .int 0, .int 0, .int 0, .int 0, .int 0, .int 0, .int (-1), .int (-1), .int 0, .int 0, .int 0, .ref (q 208), .int 0, .int 0, .ref (q 209), .ref (q 210), .ref (q 211), .ref (q 212), .ref (q 213), .int 0, .int 0, .ref (q 214), .ref (q 215), .ref (q 216), .int 0, .int 0])), ((q 201), .inl (k 1, 5340, .inl at0))] (fun _ => some (.int (-1))) (fun _ => True) (fun _ => []) := by
  refine MW (by decide) (Nat.le_of_ble_eq_true rfl) (fun p e s m below meth c ls A hx hb hml hr hlocks hin hts hown hKK hP hD hS hA hl => ?_)
  have hK := hKK.1
  have hl : lv_has ls 5 [(0, .ref (q 200)), (1, .int a), (2, .int b), (3, .int c1)] := hl
  refine lv_aload_n hx hb dX12_hoped_0 rfl (lv_at hl 0 rfl) ?_
  refine lv_iload_n hx hb dX12_hoped_1 rfl (lv_at hl 1 rfl) ?_
  refine lv_iload_n hx hb dX12_hoped_2 rfl (lv_at hl 3 rfl) ?_
  refine CRV (As := [.int a, .int c1]) (rest := []) hx hb hml hown hts hKK hP (m_areTwo l D k q a c1) ci_X12_areTwo qm_X12_265 ⟨Nat.le_of_ble_eq_true rfl, Nat.le_of_ble_eq_true rfl⟩ ⟨Nat.le_of_ble_eq_true rfl, Nat.le_of_ble_eq_true rfl⟩ 0 rfl rfl rfl hl.1 rfl (Nat.le_of_ble_eq_true rfl) dX12_hoped_3 ?_
  refine lv_if_eq (tgt := 16) hx hb dX12_hoped_6 (by decide) (fun _ => ?_) (fun c => absurd (by decide) c)
  refine lv_aload_n hx hb dX12_hoped_16 rfl (lv_at hl 0 rfl) ?_
  refine lv_iconst (v := 1) hx hb dX12_hoped_17 (by decide) ?_
  refine CWV (As := [.int 1]) (rest := []) (wc := [((q 200), .inr (12, [.ref (q 201), .ref (q 202), .int 0, .long 0, .long 1, .ref (q 203), .ref (q 204), .ref (q 205), .ref (q 206), .ref (q 207), .int 0, .int 0, .int 0, .int 0, .int 0, .int 0, .int (-1), .int (-1), .int 0, .int 0, .int 0, .ref (q 208), .int 0, .int 0, .ref (q 209), .ref (q 210), .ref (q 211), .ref (q 212), .ref (q 213), .int 0, .int 0, .ref (q 214), .ref (q 215), .ref (q 216), .int 0, .int 0]))]) (wr := [((q 201), .inl (k 1, 5340, .inl at0))]) hx hb hml hown hts hKK hP hD hS hA (m_refuse l D k (q 200) [.ref (q 201), .ref (q 202), .int 0, .long 0, .long 1, .ref (q 203), .ref (q 204), .ref (q 205), .ref (q 206), .ref (q 207), .int 0, .int 0, .int 0, .int 0, .int 0, .int 0, .int (-1), .int (-1), .int 0, .int 0, .int 0, .ref (q 208), .int 0, .int 0, .ref (q 209), .ref (q 210), .ref (q 211), .ref (q 212), .ref (q 213), .int 0, .int 0, .ref (q 214), .ref (q 215), .ref (q 216), .int 0, .int 0] (Nat.le_of_ble_eq_true rfl) 1) ci_X12_refuse qm_X12_81 ⟨Nat.le_of_ble_eq_true rfl, Nat.le_of_ble_eq_true rfl⟩ ⟨Nat.le_of_ble_eq_true rfl, Nat.le_of_ble_eq_true rfl⟩ [0] [1] rfl rfl rfl rfl rfl (by decide) 0 rfl rfl rfl hl.1 rfl (Nat.le_of_ble_eq_true rfl) dX12_hoped_18 (fun u_1 H locs hφ hP hD hS => ?_)
  have hP : va_P D vwCl [((q 201), .inl (k 1, 5340, .inl at0))] H := hP
  have hD : va_D A [((q 201), .inl (k 1, 5340, .inl at0))] := hD
  refine W.eq (g2 := F0 m 21 ls [.int (-1)]) rfl ?_
  exact EWi hx hb hr hlocks hS () rfl trivial nil_P nil_D dX12_hoped_21
set_option maxHeartbeats 4000000 in
set_option maxRecDepth 100000 in
theorem r_market (l : Launch) (D : va_G) (k : Nat → ClassId) (q : Nat → Nat) (a : Int32) (b : Int32) : WD (σ := Unit) l yX12_market cX12_market 5 (some .int) 8 0 0 D k [.ref (q 200), .int a, .int b] [((q 200), .inr (12, [.ref (q 201), .ref (q 202), .int 0, .long 0, .long 1, .ref (q 203), .ref (q 204), .ref (q 205), .ref (q 206), .ref (q 207), .int 0, .int 0, .int 0, .int 0, .int 0, .int 0, .int (-1), .int (-1), .int 0, .int 0, .int 0, .ref (q 208), .int 0, .int 0, .ref (q 209), .ref (q 210), .ref (q 211), .ref (q 212), .ref (q 213), .int 0, .int 0, .ref (q 214), .ref (q 215), .ref (q 216), .int 0, .int 0])), ((q 201), .inl (k 1, 5340, .inl at0))] (fun _ => some (.int (-1))) (fun _ => True) (fun _ => []) := by
  refine MW (by decide) (Nat.le_of_ble_eq_true rfl) (fun p e s m below meth c ls A hx hb hml hr hlocks hin hts hown hKK hP hD hS hA hl => ?_)
  have hK := hKK.1
  have hl : lv_has ls 5 [(0, .ref (q 200)), (1, .int a), (2, .int b)] := hl
  refine lv_aload_n hx hb dX12_market_0 rfl (lv_at hl 0 rfl) ?_
  refine lv_iload_n hx hb dX12_market_1 rfl (lv_at hl 1 rfl) ?_
  refine CRV (As := [.int a]) (rest := []) hx hb hml hown hts hKK hP (m_isRock l D k q a) ci_X12_isRock qm_X12_243 ⟨Nat.le_of_ble_eq_true rfl, Nat.le_of_ble_eq_true rfl⟩ ⟨Nat.le_of_ble_eq_true rfl, Nat.le_of_ble_eq_true rfl⟩ 0 rfl rfl rfl hl.1 rfl (Nat.le_of_ble_eq_true rfl) dX12_market_2 ?_
  refine lv_if_eq (tgt := 15) hx hb dX12_market_5 (by decide) (fun _ => ?_) (fun c => absurd (by decide) c)
  refine lv_aload_n hx hb dX12_market_15 rfl (lv_at hl 0 rfl) ?_
  refine lv_iconst (v := 1) hx hb dX12_market_16 (by decide) ?_
  refine CWV (As := [.int 1]) (rest := []) (wc := [((q 200), .inr (12, [.ref (q 201), .ref (q 202), .int 0, .long 0, .long 1, .ref (q 203), .ref (q 204), .ref (q 205), .ref (q 206), .ref (q 207), .int 0, .int 0, .int 0, .int 0, .int 0, .int 0, .int (-1), .int (-1), .int 0, .int 0, .int 0, .ref (q 208), .int 0, .int 0, .ref (q 209), .ref (q 210), .ref (q 211), .ref (q 212), .ref (q 213), .int 0, .int 0, .ref (q 214), .ref (q 215), .ref (q 216), .int 0, .int 0]))]) (wr := [((q 201), .inl (k 1, 5340, .inl at0))]) hx hb hml hown hts hKK hP hD hS hA (m_refuse l D k (q 200) [.ref (q 201), .ref (q 202), .int 0, .long 0, .long 1, .ref (q 203), .ref (q 204), .ref (q 205), .ref (q 206), .ref (q 207), .int 0, .int 0, .int 0, .int 0, .int 0, .int 0, .int (-1), .int (-1), .int 0, .int 0, .int 0, .ref (q 208), .int 0, .int 0, .ref (q 209), .ref (q 210), .ref (q 211), .ref (q 212), .ref (q 213), .int 0, .int 0, .ref (q 214), .ref (q 215), .ref (q 216), .int 0, .int 0] (Nat.le_of_ble_eq_true rfl) 1) ci_X12_refuse qm_X12_81 ⟨Nat.le_of_ble_eq_true rfl, Nat.le_of_ble_eq_true rfl⟩ ⟨Nat.le_of_ble_eq_true rfl, Nat.le_of_ble_eq_true rfl⟩ [0] [1] rfl rfl rfl rfl rfl (by decide) 0 rfl rfl rfl hl.1 rfl (Nat.le_of_ble_eq_true rfl) dX12_market_17 (fun u_1 H locs hφ hP hD hS => ?_)
  have hP : va_P D vwCl [((q 201), .inl (k 1, 5340, .inl at0))] H := hP
  have hD : va_D A [((q 201), .inl (k 1, 5340, .inl at0))] := hD
  refine W.eq (g2 := F0 m 20 ls [.int (-1)]) rfl ?_
  exact EWi hx hb hr hlocks hS () rfl trivial nil_P nil_D dX12_market_20
set_option maxHeartbeats 4000000 in
set_option maxRecDepth 100000 in
theorem r_wore (l : Launch) (D : va_G) (k : Nat → ClassId) (q : Nat → Nat) (a : Int32) (b : Int32) : WD (σ := Unit) l yX12_wore cX12_wore 3 (some .int) 8 0 0 D k [.ref (q 200), .int a, .int b] [((q 200), .inr (12, [.ref (q 201), .ref (q 202), .int 0, .long 0, .long 1, .ref (q 203), .ref (q 204), .ref (q 205), .ref (q 206), .ref (q 207), .int 0, .int 0, .int 0, .int 0, .int 0, .int 0, .int (-1), .int (-1), .int 0, .int 0, .int 0, .ref (q 208), .int 0, .int 0, .ref (q 209), .ref (q 210), .ref (q 211), .ref (q 212), .ref (q 213), .int 0, .int 0, .ref (q 214), .ref (q 215), .ref (q 216), .int 0, .int 0])), ((q 201), .inl (k 1, 5340, .inl at0))] (fun _ => some (.int (-1))) (fun _ => True) (fun _ => []) := by
  refine MW (by decide) (Nat.le_of_ble_eq_true rfl) (fun p e s m below meth c ls A hx hb hml hr hlocks hin hts hown hKK hP hD hS hA hl => ?_)
  have hK := hKK.1
  have hl : lv_has ls 3 [(0, .ref (q 200)), (1, .int a), (2, .int b)] := hl
  refine lv_aload_n hx hb dX12_wore_0 rfl (lv_at hl 0 rfl) ?_
  refine lv_iload_n hx hb dX12_wore_1 rfl (lv_at hl 1 rfl) ?_
  refine CRV (As := [.int a]) (rest := []) hx hb hml hown hts hKK hP (m_isRock l D k q a) ci_X12_isRock qm_X12_243 ⟨Nat.le_of_ble_eq_true rfl, Nat.le_of_ble_eq_true rfl⟩ ⟨Nat.le_of_ble_eq_true rfl, Nat.le_of_ble_eq_true rfl⟩ 0 rfl rfl rfl hl.1 rfl (Nat.le_of_ble_eq_true rfl) dX12_wore_2 ?_
  refine lv_if_eq (tgt := 37) hx hb dX12_wore_5 (by decide) (fun _ => ?_) (fun c => absurd (by decide) c)
  refine lv_aload_n hx hb dX12_wore_37 rfl (lv_at hl 0 rfl) ?_
  refine lv_iconst (v := 1) hx hb dX12_wore_38 (by decide) ?_
  refine CWV (As := [.int 1]) (rest := []) (wc := [((q 200), .inr (12, [.ref (q 201), .ref (q 202), .int 0, .long 0, .long 1, .ref (q 203), .ref (q 204), .ref (q 205), .ref (q 206), .ref (q 207), .int 0, .int 0, .int 0, .int 0, .int 0, .int 0, .int (-1), .int (-1), .int 0, .int 0, .int 0, .ref (q 208), .int 0, .int 0, .ref (q 209), .ref (q 210), .ref (q 211), .ref (q 212), .ref (q 213), .int 0, .int 0, .ref (q 214), .ref (q 215), .ref (q 216), .int 0, .int 0]))]) (wr := [((q 201), .inl (k 1, 5340, .inl at0))]) hx hb hml hown hts hKK hP hD hS hA (m_refuse l D k (q 200) [.ref (q 201), .ref (q 202), .int 0, .long 0, .long 1, .ref (q 203), .ref (q 204), .ref (q 205), .ref (q 206), .ref (q 207), .int 0, .int 0, .int 0, .int 0, .int 0, .int 0, .int (-1), .int (-1), .int 0, .int 0, .int 0, .ref (q 208), .int 0, .int 0, .ref (q 209), .ref (q 210), .ref (q 211), .ref (q 212), .ref (q 213), .int 0, .int 0, .ref (q 214), .ref (q 215), .ref (q 216), .int 0, .int 0] (Nat.le_of_ble_eq_true rfl) 1) ci_X12_refuse qm_X12_81 ⟨Nat.le_of_ble_eq_true rfl, Nat.le_of_ble_eq_true rfl⟩ ⟨Nat.le_of_ble_eq_true rfl, Nat.le_of_ble_eq_true rfl⟩ [0] [1] rfl rfl rfl rfl rfl (by decide) 0 rfl rfl rfl hl.1 rfl (Nat.le_of_ble_eq_true rfl) dX12_wore_39 (fun u_1 H locs hφ hP hD hS => ?_)
  have hP : va_P D vwCl [((q 201), .inl (k 1, 5340, .inl at0))] H := hP
  have hD : va_D A [((q 201), .inl (k 1, 5340, .inl at0))] := hD
  refine W.eq (g2 := F0 m 42 ls [.int (-1)]) rfl ?_
  exact EWi hx hb hr hlocks hS () rfl trivial nil_P nil_D dX12_wore_42
set_option maxHeartbeats 4000000 in
set_option maxRecDepth 100000 in
theorem r_fashion (l : Launch) (D : va_G) (k : Nat → ClassId) (q : Nat → Nat) (a : Int32) (b : Int32) : WD (σ := Unit) l yX12_fashion cX12_fashion 3 (some .int) 8 0 0 D k [.ref (q 200), .int a, .int b] [((q 200), .inr (12, [.ref (q 201), .ref (q 202), .int 0, .long 0, .long 1, .ref (q 203), .ref (q 204), .ref (q 205), .ref (q 206), .ref (q 207), .int 0, .int 0, .int 0, .int 0, .int 0, .int 0, .int (-1), .int (-1), .int 0, .int 0, .int 0, .ref (q 208), .int 0, .int 0, .ref (q 209), .ref (q 210), .ref (q 211), .ref (q 212), .ref (q 213), .int 0, .int 0, .ref (q 214), .ref (q 215), .ref (q 216), .int 0, .int 0])), ((q 201), .inl (k 1, 5340, .inl at0))] (fun _ => some (.int (-1))) (fun _ => True) (fun _ => []) := by
  refine MW (by decide) (Nat.le_of_ble_eq_true rfl) (fun p e s m below meth c ls A hx hb hml hr hlocks hin hts hown hKK hP hD hS hA hl => ?_)
  have hK := hKK.1
  have hl : lv_has ls 3 [(0, .ref (q 200)), (1, .int a), (2, .int b)] := hl
  refine lv_aload_n hx hb dX12_fashion_0 rfl (lv_at hl 0 rfl) ?_
  refine lv_iload_n hx hb dX12_fashion_1 rfl (lv_at hl 1 rfl) ?_
  refine lv_iload_n hx hb dX12_fashion_2 rfl (lv_at hl 2 rfl) ?_
  refine CRV (As := [.int a, .int b]) (rest := []) hx hb hml hown hts hKK hP (m_areTwo l D k q a b) ci_X12_areTwo qm_X12_265 ⟨Nat.le_of_ble_eq_true rfl, Nat.le_of_ble_eq_true rfl⟩ ⟨Nat.le_of_ble_eq_true rfl, Nat.le_of_ble_eq_true rfl⟩ 0 rfl rfl rfl hl.1 rfl (Nat.le_of_ble_eq_true rfl) dX12_fashion_3 ?_
  refine lv_if_eq (tgt := 28) hx hb dX12_fashion_6 (by decide) (fun _ => ?_) (fun c => absurd (by decide) c)
  refine lv_aload_n hx hb dX12_fashion_28 rfl (lv_at hl 0 rfl) ?_
  refine lv_iconst (v := 1) hx hb dX12_fashion_29 (by decide) ?_
  refine CWV (As := [.int 1]) (rest := []) (wc := [((q 200), .inr (12, [.ref (q 201), .ref (q 202), .int 0, .long 0, .long 1, .ref (q 203), .ref (q 204), .ref (q 205), .ref (q 206), .ref (q 207), .int 0, .int 0, .int 0, .int 0, .int 0, .int 0, .int (-1), .int (-1), .int 0, .int 0, .int 0, .ref (q 208), .int 0, .int 0, .ref (q 209), .ref (q 210), .ref (q 211), .ref (q 212), .ref (q 213), .int 0, .int 0, .ref (q 214), .ref (q 215), .ref (q 216), .int 0, .int 0]))]) (wr := [((q 201), .inl (k 1, 5340, .inl at0))]) hx hb hml hown hts hKK hP hD hS hA (m_refuse l D k (q 200) [.ref (q 201), .ref (q 202), .int 0, .long 0, .long 1, .ref (q 203), .ref (q 204), .ref (q 205), .ref (q 206), .ref (q 207), .int 0, .int 0, .int 0, .int 0, .int 0, .int 0, .int (-1), .int (-1), .int 0, .int 0, .int 0, .ref (q 208), .int 0, .int 0, .ref (q 209), .ref (q 210), .ref (q 211), .ref (q 212), .ref (q 213), .int 0, .int 0, .ref (q 214), .ref (q 215), .ref (q 216), .int 0, .int 0] (Nat.le_of_ble_eq_true rfl) 1) ci_X12_refuse qm_X12_81 ⟨Nat.le_of_ble_eq_true rfl, Nat.le_of_ble_eq_true rfl⟩ ⟨Nat.le_of_ble_eq_true rfl, Nat.le_of_ble_eq_true rfl⟩ [0] [1] rfl rfl rfl rfl rfl (by decide) 0 rfl rfl rfl hl.1 rfl (Nat.le_of_ble_eq_true rfl) dX12_fashion_30 (fun u_1 H locs hφ hP hD hS => ?_)
  have hP : va_P D vwCl [((q 201), .inl (k 1, 5340, .inl at0))] H := hP
  have hD : va_D A [((q 201), .inl (k 1, 5340, .inl at0))] := hD
  refine W.eq (g2 := F0 m 33 ls [.int (-1)]) rfl ?_
  exact EWi hx hb hr hlocks hS () rfl trivial nil_P nil_D dX12_fashion_33
set_option maxHeartbeats 4000000 in
set_option maxRecDepth 100000 in
theorem r_follows (l : Launch) (D : va_G) (k : Nat → ClassId) (q : Nat → Nat) (a : Int32) (b : Int32) : WD (σ := Unit) l yX12_follows cX12_follows 3 (some .int) 8 0 0 D k [.ref (q 200), .int a, .int b] [((q 200), .inr (12, [.ref (q 201), .ref (q 202), .int 0, .long 0, .long 1, .ref (q 203), .ref (q 204), .ref (q 205), .ref (q 206), .ref (q 207), .int 0, .int 0, .int 0, .int 0, .int 0, .int 0, .int (-1), .int (-1), .int 0, .int 0, .int 0, .ref (q 208), .int 0, .int 0, .ref (q 209), .ref (q 210), .ref (q 211), .ref (q 212), .ref (q 213), .int 0, .int 0, .ref (q 214), .ref (q 215), .ref (q 216), .int 0, .int 0])), ((q 201), .inl (k 1, 5340, .inl at0))] (fun _ => some (.int (-1))) (fun _ => True) (fun _ => []) := by
  refine MW (by decide) (Nat.le_of_ble_eq_true rfl) (fun p e s m below meth c ls A hx hb hml hr hlocks hin hts hown hKK hP hD hS hA hl => ?_)
  have hK := hKK.1
  have hl : lv_has ls 3 [(0, .ref (q 200)), (1, .int a), (2, .int b)] := hl
  refine lv_aload_n hx hb dX12_follows_0 rfl (lv_at hl 0 rfl) ?_
  refine lv_iload_n hx hb dX12_follows_1 rfl (lv_at hl 1 rfl) ?_
  refine lv_iload_n hx hb dX12_follows_2 rfl (lv_at hl 2 rfl) ?_
  refine CRV (As := [.int a, .int b]) (rest := []) hx hb hml hown hts hKK hP (m_areTwo l D k q a b) ci_X12_areTwo qm_X12_265 ⟨Nat.le_of_ble_eq_true rfl, Nat.le_of_ble_eq_true rfl⟩ ⟨Nat.le_of_ble_eq_true rfl, Nat.le_of_ble_eq_true rfl⟩ 0 rfl rfl rfl hl.1 rfl (Nat.le_of_ble_eq_true rfl) dX12_follows_3 ?_
  refine lv_if_eq (tgt := 22) hx hb dX12_follows_6 (by decide) (fun _ => ?_) (fun c => absurd (by decide) c)
  refine lv_aload_n hx hb dX12_follows_22 rfl (lv_at hl 0 rfl) ?_
  refine lv_iconst (v := 1) hx hb dX12_follows_23 (by decide) ?_
  refine CWV (As := [.int 1]) (rest := []) (wc := [((q 200), .inr (12, [.ref (q 201), .ref (q 202), .int 0, .long 0, .long 1, .ref (q 203), .ref (q 204), .ref (q 205), .ref (q 206), .ref (q 207), .int 0, .int 0, .int 0, .int 0, .int 0, .int 0, .int (-1), .int (-1), .int 0, .int 0, .int 0, .ref (q 208), .int 0, .int 0, .ref (q 209), .ref (q 210), .ref (q 211), .ref (q 212), .ref (q 213), .int 0, .int 0, .ref (q 214), .ref (q 215), .ref (q 216), .int 0, .int 0]))]) (wr := [((q 201), .inl (k 1, 5340, .inl at0))]) hx hb hml hown hts hKK hP hD hS hA (m_refuse l D k (q 200) [.ref (q 201), .ref (q 202), .int 0, .long 0, .long 1, .ref (q 203), .ref (q 204), .ref (q 205), .ref (q 206), .ref (q 207), .int 0, .int 0, .int 0, .int 0, .int 0, .int 0, .int (-1), .int (-1), .int 0, .int 0, .int 0, .ref (q 208), .int 0, .int 0, .ref (q 209), .ref (q 210), .ref (q 211), .ref (q 212), .ref (q 213), .int 0, .int 0, .ref (q 214), .ref (q 215), .ref (q 216), .int 0, .int 0] (Nat.le_of_ble_eq_true rfl) 1) ci_X12_refuse qm_X12_81 ⟨Nat.le_of_ble_eq_true rfl, Nat.le_of_ble_eq_true rfl⟩ ⟨Nat.le_of_ble_eq_true rfl, Nat.le_of_ble_eq_true rfl⟩ [0] [1] rfl rfl rfl rfl rfl (by decide) 0 rfl rfl rfl hl.1 rfl (Nat.le_of_ble_eq_true rfl) dX12_follows_24 (fun u_1 H locs hφ hP hD hS => ?_)
  have hP : va_P D vwCl [((q 201), .inl (k 1, 5340, .inl at0))] H := hP
  have hD : va_D A [((q 201), .inl (k 1, 5340, .inl at0))] := hD
  refine W.eq (g2 := F0 m 27 ls [.int (-1)]) rfl ?_
  exact EWi hx hb hr hlocks hS () rfl trivial nil_P nil_D dX12_follows_27
set_option maxHeartbeats 4000000 in
set_option maxRecDepth 100000 in
theorem r_model (l : Launch) (D : va_G) (k : Nat → ClassId) (q : Nat → Nat) (a : Int32) : WD (σ := Unit) l yX12_model cX12_model 6 (some .int) 8 0 0 D k [.ref (q 200), .int a] [((q 200), .inr (12, [.ref (q 201), .ref (q 202), .int 0, .long 0, .long 1, .ref (q 203), .ref (q 204), .ref (q 205), .ref (q 206), .ref (q 207), .int 0, .int 0, .int 0, .int 0, .int 0, .int 0, .int (-1), .int (-1), .int 0, .int 0, .int 0, .ref (q 208), .int 0, .int 0, .ref (q 209), .ref (q 210), .ref (q 211), .ref (q 212), .ref (q 213), .int 0, .int 0, .ref (q 214), .ref (q 215), .ref (q 216), .int 0, .int 0])), ((q 201), .inl (k 1, 5340, .inl at0))] (fun _ => some (.int (-1))) (fun _ => True) (fun _ => []) := by
  refine MW (by decide) (Nat.le_of_ble_eq_true rfl) (fun p e s m below meth c ls A hx hb hml hr hlocks hin hts hown hKK hP hD hS hA hl => ?_)
  have hK := hKK.1
  have hl : lv_has ls 6 [(0, .ref (q 200)), (1, .int a)] := hl
  refine lv_aload_n hx hb dX12_model_0 rfl (lv_at hl 0 rfl) ?_
  refine lv_iload_n hx hb dX12_model_1 rfl (lv_at hl 1 rfl) ?_
  refine CRV (As := [.int a]) (rest := []) hx hb hml hown hts hKK hP (m_isRock l D k q a) ci_X12_isRock qm_X12_243 ⟨Nat.le_of_ble_eq_true rfl, Nat.le_of_ble_eq_true rfl⟩ ⟨Nat.le_of_ble_eq_true rfl, Nat.le_of_ble_eq_true rfl⟩ 0 rfl rfl rfl hl.1 rfl (Nat.le_of_ble_eq_true rfl) dX12_model_2 ?_
  refine lv_if_ne (tgt := 14) hx hb dX12_model_5 (by decide) (fun c => absurd (by decide) c) (fun _ => ?_)
  refine lv_aload_n hx hb dX12_model_8 rfl (lv_at hl 0 rfl) ?_
  refine lv_iconst (v := 1) hx hb dX12_model_9 (by decide) ?_
  refine CWV (As := [.int 1]) (rest := []) (wc := [((q 200), .inr (12, [.ref (q 201), .ref (q 202), .int 0, .long 0, .long 1, .ref (q 203), .ref (q 204), .ref (q 205), .ref (q 206), .ref (q 207), .int 0, .int 0, .int 0, .int 0, .int 0, .int 0, .int (-1), .int (-1), .int 0, .int 0, .int 0, .ref (q 208), .int 0, .int 0, .ref (q 209), .ref (q 210), .ref (q 211), .ref (q 212), .ref (q 213), .int 0, .int 0, .ref (q 214), .ref (q 215), .ref (q 216), .int 0, .int 0]))]) (wr := [((q 201), .inl (k 1, 5340, .inl at0))]) hx hb hml hown hts hKK hP hD hS hA (m_refuse l D k (q 200) [.ref (q 201), .ref (q 202), .int 0, .long 0, .long 1, .ref (q 203), .ref (q 204), .ref (q 205), .ref (q 206), .ref (q 207), .int 0, .int 0, .int 0, .int 0, .int 0, .int 0, .int (-1), .int (-1), .int 0, .int 0, .int 0, .ref (q 208), .int 0, .int 0, .ref (q 209), .ref (q 210), .ref (q 211), .ref (q 212), .ref (q 213), .int 0, .int 0, .ref (q 214), .ref (q 215), .ref (q 216), .int 0, .int 0] (Nat.le_of_ble_eq_true rfl) 1) ci_X12_refuse qm_X12_81 ⟨Nat.le_of_ble_eq_true rfl, Nat.le_of_ble_eq_true rfl⟩ ⟨Nat.le_of_ble_eq_true rfl, Nat.le_of_ble_eq_true rfl⟩ [0] [1] rfl rfl rfl rfl rfl (by decide) 0 rfl rfl rfl hl.1 rfl (Nat.le_of_ble_eq_true rfl) dX12_model_10 (fun u_1 H locs hφ hP hD hS => ?_)
  have hP : va_P D vwCl [((q 201), .inl (k 1, 5340, .inl at0))] H := hP
  have hD : va_D A [((q 201), .inl (k 1, 5340, .inl at0))] := hD
  refine W.eq (g2 := F0 m 13 ls [.int (-1)]) rfl ?_
  exact EWi hx hb hr hlocks hS () rfl trivial nil_P nil_D dX12_model_13
set_option maxHeartbeats 4000000 in
set_option maxRecDepth 100000 in
theorem r_changes (l : Launch) (D : va_G) (k : Nat → ClassId) (q : Nat → Nat) (a : Int32) : WD (σ := Unit) l yX12_changes cX12_changes 4 (some .int) 8 0 0 D k [.ref (q 200), .int a] [((q 200), .inr (12, [.ref (q 201), .ref (q 202), .int 0, .long 0, .long 1, .ref (q 203), .ref (q 204), .ref (q 205), .ref (q 206), .ref (q 207), .int 0, .int 0, .int 0, .int 0, .int 0, .int 0, .int (-1), .int (-1), .int 0, .int 0, .int 0, .ref (q 208), .int 0, .int 0, .ref (q 209), .ref (q 210), .ref (q 211), .ref (q 212), .ref (q 213), .int 0, .int 0, .ref (q 214), .ref (q 215), .ref (q 216), .int 0, .int 0])), ((q 201), .inl (k 1, 5340, .inl at0))] (fun _ => some (.int (-1))) (fun _ => True) (fun _ => []) := by
  refine MW (by decide) (Nat.le_of_ble_eq_true rfl) (fun p e s m below meth c ls A hx hb hml hr hlocks hin hts hown hKK hP hD hS hA hl => ?_)
  have hK := hKK.1
  have hl : lv_has ls 4 [(0, .ref (q 200)), (1, .int a)] := hl
  refine lv_aload_n hx hb dX12_changes_0 rfl (lv_at hl 0 rfl) ?_
  refine lv_iload_n hx hb dX12_changes_1 rfl (lv_at hl 1 rfl) ?_
  refine CRV (As := [.int a]) (rest := []) hx hb hml hown hts hKK hP (m_isRock l D k q a) ci_X12_isRock qm_X12_243 ⟨Nat.le_of_ble_eq_true rfl, Nat.le_of_ble_eq_true rfl⟩ ⟨Nat.le_of_ble_eq_true rfl, Nat.le_of_ble_eq_true rfl⟩ 0 rfl rfl rfl hl.1 rfl (Nat.le_of_ble_eq_true rfl) dX12_changes_2 ?_
  refine lv_if_ne (tgt := 14) hx hb dX12_changes_5 (by decide) (fun c => absurd (by decide) c) (fun _ => ?_)
  refine lv_aload_n hx hb dX12_changes_8 rfl (lv_at hl 0 rfl) ?_
  refine lv_iconst (v := 1) hx hb dX12_changes_9 (by decide) ?_
  refine CWV (As := [.int 1]) (rest := []) (wc := [((q 200), .inr (12, [.ref (q 201), .ref (q 202), .int 0, .long 0, .long 1, .ref (q 203), .ref (q 204), .ref (q 205), .ref (q 206), .ref (q 207), .int 0, .int 0, .int 0, .int 0, .int 0, .int 0, .int (-1), .int (-1), .int 0, .int 0, .int 0, .ref (q 208), .int 0, .int 0, .ref (q 209), .ref (q 210), .ref (q 211), .ref (q 212), .ref (q 213), .int 0, .int 0, .ref (q 214), .ref (q 215), .ref (q 216), .int 0, .int 0]))]) (wr := [((q 201), .inl (k 1, 5340, .inl at0))]) hx hb hml hown hts hKK hP hD hS hA (m_refuse l D k (q 200) [.ref (q 201), .ref (q 202), .int 0, .long 0, .long 1, .ref (q 203), .ref (q 204), .ref (q 205), .ref (q 206), .ref (q 207), .int 0, .int 0, .int 0, .int 0, .int 0, .int 0, .int (-1), .int (-1), .int 0, .int 0, .int 0, .ref (q 208), .int 0, .int 0, .ref (q 209), .ref (q 210), .ref (q 211), .ref (q 212), .ref (q 213), .int 0, .int 0, .ref (q 214), .ref (q 215), .ref (q 216), .int 0, .int 0] (Nat.le_of_ble_eq_true rfl) 1) ci_X12_refuse qm_X12_81 ⟨Nat.le_of_ble_eq_true rfl, Nat.le_of_ble_eq_true rfl⟩ ⟨Nat.le_of_ble_eq_true rfl, Nat.le_of_ble_eq_true rfl⟩ [0] [1] rfl rfl rfl rfl rfl (by decide) 0 rfl rfl rfl hl.1 rfl (Nat.le_of_ble_eq_true rfl) dX12_changes_10 (fun u_1 H locs hφ hP hD hS => ?_)
  have hP : va_P D vwCl [((q 201), .inl (k 1, 5340, .inl at0))] H := hP
  have hD : va_D A [((q 201), .inl (k 1, 5340, .inl at0))] := hD
  refine W.eq (g2 := F0 m 13 ls [.int (-1)]) rfl ?_
  exact EWi hx hb hr hlocks hS () rfl trivial nil_P nil_D dX12_changes_13
set_option maxHeartbeats 4000000 in
set_option maxRecDepth 100000 in
theorem r_meanPrice (l : Launch) (D : va_G) (k : Nat → ClassId) (q : Nat → Nat) (a : Int32) (b : Int32) (c1 : Int32) : WD (σ := Unit) l yX12_meanPrice cX12_meanPrice 7 (some .boolean) 8 0 0 D k [.ref (q 200), .int a, .int b, .int c1] [((q 200), .inr (12, [.ref (q 201), .ref (q 202), .int 0, .long 0, .long 1, .ref (q 203), .ref (q 204), .ref (q 205), .ref (q 206), .ref (q 207), .int 0, .int 0, .int 0, .int 0, .int 0, .int 0, .int (-1), .int (-1), .int 0, .int 0, .int 0, .ref (q 208), .int 0, .int 0, .ref (q 209), .ref (q 210), .ref (q 211), .ref (q 212), .ref (q 213), .int 0, .int 0, .ref (q 214), .ref (q 215), .ref (q 216), .int 0, .int 0])), ((q 201), .inl (k 1, 5340, .inl at0))] (fun _ => some (.int 0)) (fun _ => True) (fun _ => []) := by
  refine MW (by decide) (Nat.le_of_ble_eq_true rfl) (fun p e s m below meth c ls A hx hb hml hr hlocks hin hts hown hKK hP hD hS hA hl => ?_)
  have hK := hKK.1
  have hl : lv_has ls 7 [(0, .ref (q 200)), (1, .int a), (2, .int b), (3, .int c1)] := hl
  refine lv_aload_n hx hb dX12_meanPrice_0 rfl (lv_at hl 0 rfl) ?_
  refine lv_iload_n hx hb dX12_meanPrice_1 rfl (lv_at hl 1 rfl) ?_
  refine CRV (As := [.int a]) (rest := []) hx hb hml hown hts hKK hP (m_isRock l D k q a) ci_X12_isRock qm_X12_243 ⟨Nat.le_of_ble_eq_true rfl, Nat.le_of_ble_eq_true rfl⟩ ⟨Nat.le_of_ble_eq_true rfl, Nat.le_of_ble_eq_true rfl⟩ 0 rfl rfl rfl hl.1 rfl (Nat.le_of_ble_eq_true rfl) dX12_meanPrice_2 ?_
  refine lv_if_eq (tgt := 27) hx hb dX12_meanPrice_5 (by decide) (fun _ => ?_) (fun c => absurd (by decide) c)
  refine lv_aload_n hx hb dX12_meanPrice_27 rfl (lv_at hl 0 rfl) ?_
  refine lv_iconst (v := 1) hx hb dX12_meanPrice_28 (by decide) ?_
  refine CWV (As := [.int 1]) (rest := []) (wc := [((q 200), .inr (12, [.ref (q 201), .ref (q 202), .int 0, .long 0, .long 1, .ref (q 203), .ref (q 204), .ref (q 205), .ref (q 206), .ref (q 207), .int 0, .int 0, .int 0, .int 0, .int 0, .int 0, .int (-1), .int (-1), .int 0, .int 0, .int 0, .ref (q 208), .int 0, .int 0, .ref (q 209), .ref (q 210), .ref (q 211), .ref (q 212), .ref (q 213), .int 0, .int 0, .ref (q 214), .ref (q 215), .ref (q 216), .int 0, .int 0]))]) (wr := [((q 201), .inl (k 1, 5340, .inl at0))]) hx hb hml hown hts hKK hP hD hS hA (m_is1 l D k (q 200) [.ref (q 201), .ref (q 202), .int 0, .long 0, .long 1, .ref (q 203), .ref (q 204), .ref (q 205), .ref (q 206), .ref (q 207), .int 0, .int 0, .int 0, .int 0, .int 0, .int 0, .int (-1), .int (-1), .int 0, .int 0, .int 0, .ref (q 208), .int 0, .int 0, .ref (q 209), .ref (q 210), .ref (q 211), .ref (q 212), .ref (q 213), .int 0, .int 0, .ref (q 214), .ref (q 215), .ref (q 216), .int 0, .int 0] (Nat.le_of_ble_eq_true rfl) 1 (by decide)) ci_X12_is qm_X12_89 ⟨Nat.le_of_ble_eq_true rfl, Nat.le_of_ble_eq_true rfl⟩ ⟨Nat.le_of_ble_eq_true rfl, Nat.le_of_ble_eq_true rfl⟩ [0] [1] rfl rfl rfl rfl rfl (by decide) 0 rfl rfl rfl hl.1 rfl (Nat.le_of_ble_eq_true rfl) dX12_meanPrice_29 (fun u_1 H locs hφ hP hD hS => ?_)
  have hP : va_P D vwCl [((q 201), .inl (k 1, 5340, .inl at0))] H := hP
  have hD : va_D A [((q 201), .inl (k 1, 5340, .inl at0))] := hD
  refine W.eq (g2 := F0 m 32 ls [.int 0]) rfl ?_
  exact EWz hx hb hr hlocks hS () rfl rfl trivial nil_P nil_D dX12_meanPrice_32
set_option maxHeartbeats 4000000 in
set_option maxRecDepth 100000 in
theorem r_wear (l : Launch) (D : va_G) (k : Nat → ClassId) (q : Nat → Nat) (a : Int32) (b : Int32) : WD (σ := Unit) l yX12_wear cX12_wear 3 (some .boolean) 8 0 0 D k [.ref (q 200), .int a, .int b] [((q 200), .inr (12, [.ref (q 201), .ref (q 202), .int 0, .long 0, .long 1, .ref (q 203), .ref (q 204), .ref (q 205), .ref (q 206), .ref (q 207), .int 0, .int 0, .int 0, .int 0, .int 0, .int 0, .int (-1), .int (-1), .int 0, .int 0, .int 0, .ref (q 208), .int 0, .int 0, .ref (q 209), .ref (q 210), .ref (q 211), .ref (q 212), .ref (q 213), .int 0, .int 0, .ref (q 214), .ref (q 215), .ref (q 216), .int 0, .int 0])), ((q 201), .inl (k 1, 5340, .inl at0))] (fun _ => some (.int 0)) (fun _ => True) (fun _ => []) := by
  refine MW (by decide) (Nat.le_of_ble_eq_true rfl) (fun p e s m below meth c ls A hx hb hml hr hlocks hin hts hown hKK hP hD hS hA hl => ?_)
  have hK := hKK.1
  have hl : lv_has ls 3 [(0, .ref (q 200)), (1, .int a), (2, .int b)] := hl
  refine lv_aload_n hx hb dX12_wear_0 rfl (lv_at hl 0 rfl) ?_
  refine lv_iload_n hx hb dX12_wear_1 rfl (lv_at hl 1 rfl) ?_
  refine CRV (As := [.int a]) (rest := []) hx hb hml hown hts hKK hP (m_isRock l D k q a) ci_X12_isRock qm_X12_243 ⟨Nat.le_of_ble_eq_true rfl, Nat.le_of_ble_eq_true rfl⟩ ⟨Nat.le_of_ble_eq_true rfl, Nat.le_of_ble_eq_true rfl⟩ 0 rfl rfl rfl hl.1 rfl (Nat.le_of_ble_eq_true rfl) dX12_wear_2 ?_
  refine lv_if_eq (tgt := 18) hx hb dX12_wear_5 (by decide) (fun _ => ?_) (fun c => absurd (by decide) c)
  refine lv_aload_n hx hb dX12_wear_18 rfl (lv_at hl 0 rfl) ?_
  refine lv_iconst (v := 1) hx hb dX12_wear_19 (by decide) ?_
  refine CWV (As := [.int 1]) (rest := []) (wc := [((q 200), .inr (12, [.ref (q 201), .ref (q 202), .int 0, .long 0, .long 1, .ref (q 203), .ref (q 204), .ref (q 205), .ref (q 206), .ref (q 207), .int 0, .int 0, .int 0, .int 0, .int 0, .int 0, .int (-1), .int (-1), .int 0, .int 0, .int 0, .ref (q 208), .int 0, .int 0, .ref (q 209), .ref (q 210), .ref (q 211), .ref (q 212), .ref (q 213), .int 0, .int 0, .ref (q 214), .ref (q 215), .ref (q 216), .int 0, .int 0]))]) (wr := [((q 201), .inl (k 1, 5340, .inl at0))]) hx hb hml hown hts hKK hP hD hS hA (m_is1 l D k (q 200) [.ref (q 201), .ref (q 202), .int 0, .long 0, .long 1, .ref (q 203), .ref (q 204), .ref (q 205), .ref (q 206), .ref (q 207), .int 0, .int 0, .int 0, .int 0, .int 0, .int 0, .int (-1), .int (-1), .int 0, .int 0, .int 0, .ref (q 208), .int 0, .int 0, .ref (q 209), .ref (q 210), .ref (q 211), .ref (q 212), .ref (q 213), .int 0, .int 0, .ref (q 214), .ref (q 215), .ref (q 216), .int 0, .int 0] (Nat.le_of_ble_eq_true rfl) 1 (by decide)) ci_X12_is qm_X12_89 ⟨Nat.le_of_ble_eq_true rfl, Nat.le_of_ble_eq_true rfl⟩ ⟨Nat.le_of_ble_eq_true rfl, Nat.le_of_ble_eq_true rfl⟩ [0] [1] rfl rfl rfl rfl rfl (by decide) 0 rfl rfl rfl hl.1 rfl (Nat.le_of_ble_eq_true rfl) dX12_wear_20 (fun u_1 H locs hφ hP hD hS => ?_)
  have hP : va_P D vwCl [((q 201), .inl (k 1, 5340, .inl at0))] H := hP
  have hD : va_D A [((q 201), .inl (k 1, 5340, .inl at0))] := hD
  refine W.eq (g2 := F0 m 23 ls [.int 0]) rfl ?_
  exact EWz hx hb hr hlocks hS () rfl rfl trivial nil_P nil_D dX12_wear_23
set_option maxHeartbeats 4000000 in
set_option maxRecDepth 100000 in
theorem r_status (l : Launch) (D : va_G) (k : Nat → ClassId) (q : Nat → Nat) : WD (σ := Unit) l yX12_status cX12_status 1 (some .int) 8 0 0 D k [.ref (q 200)] [((q 200), .inr (12, [.ref (q 201), .ref (q 202), .int 0, .long 0, .long 1, .ref (q 203), .ref (q 204), .ref (q 205), .ref (q 206), .ref (q 207), .int 0, .int 0, .int 0, .int 0, .int 0, .int 0, .int (-1), .int (-1), .int 0, .int 0, .int 0, .ref (q 208), .int 0, .int 0, .ref (q 209), .ref (q 210), .ref (q 211), .ref (q 212), .ref (q 213), .int 0, .int 0, .ref (q 214), .ref (q 215), .ref (q 216), .int 0, .int 0])), ((q 201), .inl (k 1, 5340, .inl at0))] (fun _ => some (.int 0)) (fun _ => True) (fun _ => []) := by
  refine MW (by decide) (Nat.le_of_ble_eq_true rfl) (fun p e s m below meth c ls A hx hb hml hr hlocks hin hts hown hKK hP hD hS hA hl => ?_)
  have hK := hKK.1
  have hl : lv_has ls 1 [(0, .ref (q 200))] := hl
  refine lv_aload_n hx hb dX12_status_0 rfl (lv_at hl 0 rfl) ?_
  refine va_get (D := D) (ci := 12) (v := .int 0) (C := RX12) (T := TX12) (N := 36) hx hb hts iX12 hown hK hP 0 rfl rfl 2 (by decide) (hts _ qf_X12_75) (fun _ h => h) rfl dX12_status_1 ?_
  exact EWi hx hb hr hlocks hS () rfl trivial nil_P nil_D dX12_status_4
set_option maxHeartbeats 4000000 in
set_option maxRecDepth 100000 in
theorem r_top (l : Launch) (D : va_G) (k : Nat → ClassId) (q : Nat → Nat) : WD (σ := Unit) l yX12_top cX12_top 1 (some .long) 8 0 0 D k [.ref (q 200)] [((q 200), .inr (12, [.ref (q 201), .ref (q 202), .int 0, .long 0, .long 1, .ref (q 203), .ref (q 204), .ref (q 205), .ref (q 206), .ref (q 207), .int 0, .int 0, .int 0, .int 0, .int 0, .int 0, .int (-1), .int (-1), .int 0, .int 0, .int 0, .ref (q 208), .int 0, .int 0, .ref (q 209), .ref (q 210), .ref (q 211), .ref (q 212), .ref (q 213), .int 0, .int 0, .ref (q 214), .ref (q 215), .ref (q 216), .int 0, .int 0])), ((q 201), .inl (k 1, 5340, .inl at0))] (fun _ => some (.long 0)) (fun _ => True) (fun _ => []) := by
  refine MW (by decide) (Nat.le_of_ble_eq_true rfl) (fun p e s m below meth c ls A hx hb hml hr hlocks hin hts hown hKK hP hD hS hA hl => ?_)
  have hK := hKK.1
  have hl : lv_has ls 1 [(0, .ref (q 200))] := hl
  refine lv_aload_n hx hb dX12_top_0 rfl (lv_at hl 0 rfl) ?_
  refine va_get (D := D) (ci := 12) (v := .long 0) (C := RX12) (T := TX12) (N := 36) hx hb hts iX12 hown hK hP 0 rfl rfl 3 (by decide) (hts _ qf_X12_78) (fun _ h => h) rfl dX12_top_1 ?_
  exact EWl hx hb hr hlocks hS () rfl trivial nil_P nil_D dX12_top_4
set_option maxHeartbeats 4000000 in
set_option maxRecDepth 100000 in
theorem r_bottom (l : Launch) (D : va_G) (k : Nat → ClassId) (q : Nat → Nat) : WD (σ := Unit) l yX12_bottom cX12_bottom 1 (some .long) 8 0 0 D k [.ref (q 200)] [((q 200), .inr (12, [.ref (q 201), .ref (q 202), .int 0, .long 0, .long 1, .ref (q 203), .ref (q 204), .ref (q 205), .ref (q 206), .ref (q 207), .int 0, .int 0, .int 0, .int 0, .int 0, .int 0, .int (-1), .int (-1), .int 0, .int 0, .int 0, .ref (q 208), .int 0, .int 0, .ref (q 209), .ref (q 210), .ref (q 211), .ref (q 212), .ref (q 213), .int 0, .int 0, .ref (q 214), .ref (q 215), .ref (q 216), .int 0, .int 0])), ((q 201), .inl (k 1, 5340, .inl at0))] (fun _ => some (.long 1)) (fun _ => True) (fun _ => []) := by
  refine MW (by decide) (Nat.le_of_ble_eq_true rfl) (fun p e s m below meth c ls A hx hb hml hr hlocks hin hts hown hKK hP hD hS hA hl => ?_)
  have hK := hKK.1
  have hl : lv_has ls 1 [(0, .ref (q 200))] := hl
  refine lv_aload_n hx hb dX12_bottom_0 rfl (lv_at hl 0 rfl) ?_
  refine va_get (D := D) (ci := 12) (v := .long 1) (C := RX12) (T := TX12) (N := 36) hx hb hts iX12 hown hK hP 0 rfl rfl 4 (by decide) (hts _ qf_X12_17) (fun _ h => h) rfl dX12_bottom_1 ?_
  exact EWl hx hb hr hlocks hS () rfl trivial nil_P nil_D dX12_bottom_4
set_option maxHeartbeats 4000000 in
set_option maxRecDepth 100000 in
theorem r_live (l : Launch) (D : va_G) (k : Nat → ClassId) (q : Nat → Nat) (a : Int32) : WD (σ := Unit) l yX12_live cX12_live 3 (some .int) 8 0 0 D k [.ref (q 200), .int a] [((q 200), .inr (12, [.ref (q 201), .ref (q 202), .int 0, .long 0, .long 1, .ref (q 203), .ref (q 204), .ref (q 205), .ref (q 206), .ref (q 207), .int 0, .int 0, .int 0, .int 0, .int 0, .int 0, .int (-1), .int (-1), .int 0, .int 0, .int 0, .ref (q 208), .int 0, .int 0, .ref (q 209), .ref (q 210), .ref (q 211), .ref (q 212), .ref (q 213), .int 0, .int 0, .ref (q 214), .ref (q 215), .ref (q 216), .int 0, .int 0])), ((q 201), .inl (k 1, 5340, .inl at0))] (fun _ => some (.int (-1))) (fun _ => True) (fun _ => []) := by
  refine MW (by decide) (Nat.le_of_ble_eq_true rfl) (fun p e s m below meth c ls A hx hb hml hr hlocks hin hts hown hKK hP hD hS hA hl => ?_)
  have hK := hKK.1
  have hl : lv_has ls 3 [(0, .ref (q 200)), (1, .int a)] := hl
  refine lv_iload_n hx hb dX12_live_0 rfl (lv_at hl 1 rfl) ?_
  refine lv_i2l (v := a.toInt64) hx hb dX12_live_1 rfl ?_
  refine lv_lconst (v := 0) hx hb dX12_live_2 rfl ?_
  refine lv_ldc2 (own := RX12) (v := 9999) hx hb hown (hts _ qk_X12_399) dX12_live_3 ?_
  refine CRS (As := [.long a.toInt64, .long 0, .long 9999]) (rest := []) hx hb hml hown hts hKK (hP.sub (ws' := []) [] rfl) (m_isFrom l D k a.toInt64 0 9999) ci_X12_isFrom qm_X12_295 ⟨Nat.le_of_ble_eq_true rfl, Nat.le_of_ble_eq_true rfl⟩ ⟨Nat.le_of_ble_eq_true rfl, Nat.le_of_ble_eq_true rfl⟩ rfl hl.1 rfl (Nat.le_of_ble_eq_true rfl) dX12_live_6 ?_
  refine lv_if_ne (tgt := 18) hx hb dX12_live_9 (by decide) (fun c_1 => ?_) (fun c_1 => ?_)
  ·
    refine lv_aload_n hx hb dX12_live_18 rfl (lv_at hl 0 rfl) ?_
    refine va_get (D := D) (ci := 12) (v := .ref (q 201)) (C := RX12) (T := TX12) (N := 36) hx hb hts iX12 hown hK hP 0 rfl rfl 0 (by decide) (hts _ qf_X12_7) (fun _ h => h) rfl dX12_live_19 ?_
    refine lv_iconst (v := 5) hx hb dX12_live_22 (by decide) ?_
    refine va_iald hx hb hK hP 1 1 rfl rfl (xin 5 5340 rfl (by decide) (by decide)) dX12_live_23 ?_
    refine lv_topi (fun x_2 ex_2 => ?_)
    obtain rfl : x_2 = (-1) := ex_2.trans (by decide +kernel)
    refine lv_iconst (v := (-1)) hx hb dX12_live_24 (by decide) ?_
    refine lv_icmp_ne (tgt := 35) hx hb dX12_live_25 (by decide) (fun c => absurd (by decide) c) (fun _ => ?_)
    refine lv_aload_n hx hb dX12_live_28 rfl (lv_at hl 0 rfl) ?_
    refine lv_bipush (v := 6) hx hb dX12_live_29 (by decide) ?_
    refine CWV (As := [.int 6]) (rest := []) (wc := [((q 200), .inr (12, [.ref (q 201), .ref (q 202), .int 0, .long 0, .long 1, .ref (q 203), .ref (q 204), .ref (q 205), .ref (q 206), .ref (q 207), .int 0, .int 0, .int 0, .int 0, .int 0, .int 0, .int (-1), .int (-1), .int 0, .int 0, .int 0, .ref (q 208), .int 0, .int 0, .ref (q 209), .ref (q 210), .ref (q 211), .ref (q 212), .ref (q 213), .int 0, .int 0, .ref (q 214), .ref (q 215), .ref (q 216), .int 0, .int 0]))]) (wr := [((q 201), .inl (k 1, 5340, .inl at0))]) hx hb hml hown hts hKK hP hD hS hA (m_refuse l D k (q 200) [.ref (q 201), .ref (q 202), .int 0, .long 0, .long 1, .ref (q 203), .ref (q 204), .ref (q 205), .ref (q 206), .ref (q 207), .int 0, .int 0, .int 0, .int 0, .int 0, .int 0, .int (-1), .int (-1), .int 0, .int 0, .int 0, .ref (q 208), .int 0, .int 0, .ref (q 209), .ref (q 210), .ref (q 211), .ref (q 212), .ref (q 213), .int 0, .int 0, .ref (q 214), .ref (q 215), .ref (q 216), .int 0, .int 0] (Nat.le_of_ble_eq_true rfl) 6) ci_X12_refuse qm_X12_81 ⟨Nat.le_of_ble_eq_true rfl, Nat.le_of_ble_eq_true rfl⟩ ⟨Nat.le_of_ble_eq_true rfl, Nat.le_of_ble_eq_true rfl⟩ [0] [1] rfl rfl rfl rfl rfl (by decide) 0 rfl rfl rfl hl.1 rfl (Nat.le_of_ble_eq_true rfl) dX12_live_31 (fun u_3 H locs hφ hP hD hS => ?_)
    have hP : va_P D vwCl [((q 201), .inl (k 1, 5340, .inl at0))] H := hP
    have hD : va_D A [((q 201), .inl (k 1, 5340, .inl at0))] := hD
    refine W.eq (g2 := F0 m 34 ls [.int (-1)]) rfl ?_
    exact EWi hx hb hr hlocks hS () rfl trivial nil_P nil_D dX12_live_34
  ·
    refine lv_aload_n hx hb dX12_live_12 rfl (lv_at hl 0 rfl) ?_
    refine lv_iconst (v := 1) hx hb dX12_live_13 (by decide) ?_
    refine CWV (As := [.int 1]) (rest := []) (wc := [((q 200), .inr (12, [.ref (q 201), .ref (q 202), .int 0, .long 0, .long 1, .ref (q 203), .ref (q 204), .ref (q 205), .ref (q 206), .ref (q 207), .int 0, .int 0, .int 0, .int 0, .int 0, .int 0, .int (-1), .int (-1), .int 0, .int 0, .int 0, .ref (q 208), .int 0, .int 0, .ref (q 209), .ref (q 210), .ref (q 211), .ref (q 212), .ref (q 213), .int 0, .int 0, .ref (q 214), .ref (q 215), .ref (q 216), .int 0, .int 0]))]) (wr := [((q 201), .inl (k 1, 5340, .inl at0))]) hx hb hml hown hts hKK hP hD hS hA (m_refuse l D k (q 200) [.ref (q 201), .ref (q 202), .int 0, .long 0, .long 1, .ref (q 203), .ref (q 204), .ref (q 205), .ref (q 206), .ref (q 207), .int 0, .int 0, .int 0, .int 0, .int 0, .int 0, .int (-1), .int (-1), .int 0, .int 0, .int 0, .ref (q 208), .int 0, .int 0, .ref (q 209), .ref (q 210), .ref (q 211), .ref (q 212), .ref (q 213), .int 0, .int 0, .ref (q 214), .ref (q 215), .ref (q 216), .int 0, .int 0] (Nat.le_of_ble_eq_true rfl) 1) ci_X12_refuse qm_X12_81 ⟨Nat.le_of_ble_eq_true rfl, Nat.le_of_ble_eq_true rfl⟩ ⟨Nat.le_of_ble_eq_true rfl, Nat.le_of_ble_eq_true rfl⟩ [0] [1] rfl rfl rfl rfl rfl (by decide) 0 rfl rfl rfl hl.1 rfl (Nat.le_of_ble_eq_true rfl) dX12_live_14 (fun u_4 H locs hφ hP hD hS => ?_)
    have hP : va_P D vwCl [((q 201), .inl (k 1, 5340, .inl at0))] H := hP
    have hD : va_D A [((q 201), .inl (k 1, 5340, .inl at0))] := hD
    refine W.eq (g2 := F0 m 17 ls [.int (-1)]) rfl ?_
    exact EWi hx hb hr hlocks hS () rfl trivial nil_P nil_D dX12_live_17
set_option maxHeartbeats 4000000 in
set_option maxRecDepth 100000 in
theorem r_mean (l : Launch) (D : va_G) (k : Nat → ClassId) (q : Nat → Nat) (a : Int32) (b : Int32) : WD (σ := Unit) l yX12_mean cX12_mean 7 (some .boolean) 8 0 0 D k [.ref (q 200), .int a, .int b] [((q 200), .inr (12, [.ref (q 201), .ref (q 202), .int 0, .long 0, .long 1, .ref (q 203), .ref (q 204), .ref (q 205), .ref (q 206), .ref (q 207), .int 0, .int 0, .int 0, .int 0, .int 0, .int 0, .int (-1), .int (-1), .int 0, .int 0, .int 0, .ref (q 208), .int 0, .int 0, .ref (q 209), .ref (q 210), .ref (q 211), .ref (q 212), .ref (q 213), .int 0, .int 0, .ref (q 214), .ref (q 215), .ref (q 216), .int 0, .int 0])), ((q 201), .inl (k 1, 5340, .inl at0))] (fun _ => some (.int 0)) (fun _ => True) (fun _ => []) := by
  refine MW (by decide) (Nat.le_of_ble_eq_true rfl) (fun p e s m below meth c ls A hx hb hml hr hlocks hin hts hown hKK hP hD hS hA hl => ?_)
  have hK := hKK.1
  have hl : lv_has ls 7 [(0, .ref (q 200)), (1, .int a), (2, .int b)] := hl
  refine lv_iload_n hx hb dX12_mean_0 rfl (lv_at hl 1 rfl) ?_
  refine lv_i2l (v := a.toInt64) hx hb dX12_mean_1 rfl ?_
  refine lv_lconst (v := 0) hx hb dX12_mean_2 rfl ?_
  refine lv_ldc2 (own := RX12) (v := 9999) hx hb hown (hts _ qk_X12_399) dX12_mean_3 ?_
  refine CRS (As := [.long a.toInt64, .long 0, .long 9999]) (rest := []) hx hb hml hown hts hKK (hP.sub (ws' := []) [] rfl) (m_isFrom l D k a.toInt64 0 9999) ci_X12_isFrom qm_X12_295 ⟨Nat.le_of_ble_eq_true rfl, Nat.le_of_ble_eq_true rfl⟩ ⟨Nat.le_of_ble_eq_true rfl, Nat.le_of_ble_eq_true rfl⟩ rfl hl.1 rfl (Nat.le_of_ble_eq_true rfl) dX12_mean_6 ?_
  refine lv_if_eq (tgt := 35) hx hb dX12_mean_9 (by decide) (fun c_1 => ?_) (fun c_1 => ?_)
  ·
    refine lv_aload_n hx hb dX12_mean_35 rfl (lv_at hl 0 rfl) ?_
    refine lv_iconst (v := 1) hx hb dX12_mean_36 (by decide) ?_
    refine CWV (As := [.int 1]) (rest := []) (wc := [((q 200), .inr (12, [.ref (q 201), .ref (q 202), .int 0, .long 0, .long 1, .ref (q 203), .ref (q 204), .ref (q 205), .ref (q 206), .ref (q 207), .int 0, .int 0, .int 0, .int 0, .int 0, .int 0, .int (-1), .int (-1), .int 0, .int 0, .int 0, .ref (q 208), .int 0, .int 0, .ref (q 209), .ref (q 210), .ref (q 211), .ref (q 212), .ref (q 213), .int 0, .int 0, .ref (q 214), .ref (q 215), .ref (q 216), .int 0, .int 0]))]) (wr := [((q 201), .inl (k 1, 5340, .inl at0))]) hx hb hml hown hts hKK hP hD hS hA (m_is1 l D k (q 200) [.ref (q 201), .ref (q 202), .int 0, .long 0, .long 1, .ref (q 203), .ref (q 204), .ref (q 205), .ref (q 206), .ref (q 207), .int 0, .int 0, .int 0, .int 0, .int 0, .int 0, .int (-1), .int (-1), .int 0, .int 0, .int 0, .ref (q 208), .int 0, .int 0, .ref (q 209), .ref (q 210), .ref (q 211), .ref (q 212), .ref (q 213), .int 0, .int 0, .ref (q 214), .ref (q 215), .ref (q 216), .int 0, .int 0] (Nat.le_of_ble_eq_true rfl) 1 (by decide)) ci_X12_is qm_X12_89 ⟨Nat.le_of_ble_eq_true rfl, Nat.le_of_ble_eq_true rfl⟩ ⟨Nat.le_of_ble_eq_true rfl, Nat.le_of_ble_eq_true rfl⟩ [0] [1] rfl rfl rfl rfl rfl (by decide) 0 rfl rfl rfl hl.1 rfl (Nat.le_of_ble_eq_true rfl) dX12_mean_37 (fun u_2 H locs hφ hP hD hS => ?_)
    have hP : va_P D vwCl [((q 201), .inl (k 1, 5340, .inl at0))] H := hP
    have hD : va_D A [((q 201), .inl (k 1, 5340, .inl at0))] := hD
    refine W.eq (g2 := F0 m 40 ls [.int 0]) rfl ?_
    exact EWz hx hb hr hlocks hS () rfl rfl trivial nil_P nil_D dX12_mean_40
  ·
    refine lv_iload_n hx hb dX12_mean_12 rfl (lv_at hl 2 rfl) ?_
    refine lv_i2l (v := b.toInt64) hx hb dX12_mean_13 rfl ?_
    refine lv_lconst (v := 1) hx hb dX12_mean_14 rfl ?_
    refine lv_ldc2 (own := RX12) (v := 10) hx hb hown (hts _ qk_X12_407) dX12_mean_15 ?_
    refine CRS (As := [.long b.toInt64, .long 1, .long 10]) (rest := []) hx hb hml hown hts hKK (hP.sub (ws' := []) [] rfl) (m_isFrom l D k b.toInt64 1 10) ci_X12_isFrom qm_X12_295 ⟨Nat.le_of_ble_eq_true rfl, Nat.le_of_ble_eq_true rfl⟩ ⟨Nat.le_of_ble_eq_true rfl, Nat.le_of_ble_eq_true rfl⟩ rfl hl.1 rfl (Nat.le_of_ble_eq_true rfl) dX12_mean_18 ?_
    refine lv_if_eq (tgt := 35) hx hb dX12_mean_21 (by decide) (fun c_3 => ?_) (fun c_3 => ?_)
    ·
      refine lv_aload_n hx hb dX12_mean_35 rfl (lv_at hl 0 rfl) ?_
      refine lv_iconst (v := 1) hx hb dX12_mean_36 (by decide) ?_
      refine CWV (As := [.int 1]) (rest := []) (wc := [((q 200), .inr (12, [.ref (q 201), .ref (q 202), .int 0, .long 0, .long 1, .ref (q 203), .ref (q 204), .ref (q 205), .ref (q 206), .ref (q 207), .int 0, .int 0, .int 0, .int 0, .int 0, .int 0, .int (-1), .int (-1), .int 0, .int 0, .int 0, .ref (q 208), .int 0, .int 0, .ref (q 209), .ref (q 210), .ref (q 211), .ref (q 212), .ref (q 213), .int 0, .int 0, .ref (q 214), .ref (q 215), .ref (q 216), .int 0, .int 0]))]) (wr := [((q 201), .inl (k 1, 5340, .inl at0))]) hx hb hml hown hts hKK hP hD hS hA (m_is1 l D k (q 200) [.ref (q 201), .ref (q 202), .int 0, .long 0, .long 1, .ref (q 203), .ref (q 204), .ref (q 205), .ref (q 206), .ref (q 207), .int 0, .int 0, .int 0, .int 0, .int 0, .int 0, .int (-1), .int (-1), .int 0, .int 0, .int 0, .ref (q 208), .int 0, .int 0, .ref (q 209), .ref (q 210), .ref (q 211), .ref (q 212), .ref (q 213), .int 0, .int 0, .ref (q 214), .ref (q 215), .ref (q 216), .int 0, .int 0] (Nat.le_of_ble_eq_true rfl) 1 (by decide)) ci_X12_is qm_X12_89 ⟨Nat.le_of_ble_eq_true rfl, Nat.le_of_ble_eq_true rfl⟩ ⟨Nat.le_of_ble_eq_true rfl, Nat.le_of_ble_eq_true rfl⟩ [0] [1] rfl rfl rfl rfl rfl (by decide) 0 rfl rfl rfl hl.1 rfl (Nat.le_of_ble_eq_true rfl) dX12_mean_37 (fun u_4 H locs hφ hP hD hS => ?_)
      have hP : va_P D vwCl [((q 201), .inl (k 1, 5340, .inl at0))] H := hP
      have hD : va_D A [((q 201), .inl (k 1, 5340, .inl at0))] := hD
      refine W.eq (g2 := F0 m 40 ls [.int 0]) rfl ?_
      exact EWz hx hb hr hlocks hS () rfl rfl trivial nil_P nil_D dX12_mean_40
    ·
      refine lv_iload_n hx hb dX12_mean_24 rfl (lv_at hl 1 rfl) ?_
      refine lv_iload_n hx hb dX12_mean_25 rfl (lv_at hl 2 rfl) ?_
      refine lv_iadd hx hb dX12_mean_26 ?_
      refine lv_topi (fun x_5 ex_5 => ?_)
      refine lv_iconst (v := 1) hx hb dX12_mean_27 (by decide) ?_
      refine lv_isub hx hb dX12_mean_28 ?_
      refine lv_topi (fun x_6 ex_6 => ?_)
      refine lv_sipush (v := 9999) hx hb dX12_mean_29 (by decide) ?_
      refine lv_icmp_le (tgt := 41) hx hb dX12_mean_32 (by decide) (fun c_7 => ?_) (fun c_7 => ?_)
      ·
        refine lv_aload_n hx hb dX12_mean_41 rfl (lv_at hl 0 rfl) ?_
        refine va_get (D := D) (ci := 12) (v := .ref (q 201)) (C := RX12) (T := TX12) (N := 36) hx hb hts iX12 hown hK hP 0 rfl rfl 0 (by decide) (hts _ qf_X12_7) (fun _ h => h) rfl dX12_mean_42 ?_
        refine lv_iconst (v := 5) hx hb dX12_mean_45 (by decide) ?_
        refine va_iald hx hb hK hP 1 1 rfl rfl (xin 5 5340 rfl (by decide) (by decide)) dX12_mean_46 ?_
        refine lv_topi (fun x_8 ex_8 => ?_)
        obtain rfl : x_8 = (-1) := ex_8.trans (by decide +kernel)
        refine lv_iconst (v := (-1)) hx hb dX12_mean_47 (by decide) ?_
        refine lv_icmp_ne (tgt := 58) hx hb dX12_mean_48 (by decide) (fun c => absurd (by decide) c) (fun _ => ?_)
        refine lv_aload_n hx hb dX12_mean_51 rfl (lv_at hl 0 rfl) ?_
        refine lv_bipush (v := 6) hx hb dX12_mean_52 (by decide) ?_
        refine CWV (As := [.int 6]) (rest := []) (wc := [((q 200), .inr (12, [.ref (q 201), .ref (q 202), .int 0, .long 0, .long 1, .ref (q 203), .ref (q 204), .ref (q 205), .ref (q 206), .ref (q 207), .int 0, .int 0, .int 0, .int 0, .int 0, .int 0, .int (-1), .int (-1), .int 0, .int 0, .int 0, .ref (q 208), .int 0, .int 0, .ref (q 209), .ref (q 210), .ref (q 211), .ref (q 212), .ref (q 213), .int 0, .int 0, .ref (q 214), .ref (q 215), .ref (q 216), .int 0, .int 0]))]) (wr := [((q 201), .inl (k 1, 5340, .inl at0))]) hx hb hml hown hts hKK hP hD hS hA (m_is1 l D k (q 200) [.ref (q 201), .ref (q 202), .int 0, .long 0, .long 1, .ref (q 203), .ref (q 204), .ref (q 205), .ref (q 206), .ref (q 207), .int 0, .int 0, .int 0, .int 0, .int 0, .int 0, .int (-1), .int (-1), .int 0, .int 0, .int 0, .ref (q 208), .int 0, .int 0, .ref (q 209), .ref (q 210), .ref (q 211), .ref (q 212), .ref (q 213), .int 0, .int 0, .ref (q 214), .ref (q 215), .ref (q 216), .int 0, .int 0] (Nat.le_of_ble_eq_true rfl) 6 (by decide)) ci_X12_is qm_X12_89 ⟨Nat.le_of_ble_eq_true rfl, Nat.le_of_ble_eq_true rfl⟩ ⟨Nat.le_of_ble_eq_true rfl, Nat.le_of_ble_eq_true rfl⟩ [0] [1] rfl rfl rfl rfl rfl (by decide) 0 rfl rfl rfl hl.1 rfl (Nat.le_of_ble_eq_true rfl) dX12_mean_54 (fun u_9 H locs hφ hP hD hS => ?_)
        have hP : va_P D vwCl [((q 201), .inl (k 1, 5340, .inl at0))] H := hP
        have hD : va_D A [((q 201), .inl (k 1, 5340, .inl at0))] := hD
        refine W.eq (g2 := F0 m 57 ls [.int 0]) rfl ?_
        exact EWz hx hb hr hlocks hS () rfl rfl trivial nil_P nil_D dX12_mean_57
      ·
        refine lv_aload_n hx hb dX12_mean_35 rfl (lv_at hl 0 rfl) ?_
        refine lv_iconst (v := 1) hx hb dX12_mean_36 (by decide) ?_
        refine CWV (As := [.int 1]) (rest := []) (wc := [((q 200), .inr (12, [.ref (q 201), .ref (q 202), .int 0, .long 0, .long 1, .ref (q 203), .ref (q 204), .ref (q 205), .ref (q 206), .ref (q 207), .int 0, .int 0, .int 0, .int 0, .int 0, .int 0, .int (-1), .int (-1), .int 0, .int 0, .int 0, .ref (q 208), .int 0, .int 0, .ref (q 209), .ref (q 210), .ref (q 211), .ref (q 212), .ref (q 213), .int 0, .int 0, .ref (q 214), .ref (q 215), .ref (q 216), .int 0, .int 0]))]) (wr := [((q 201), .inl (k 1, 5340, .inl at0))]) hx hb hml hown hts hKK hP hD hS hA (m_is1 l D k (q 200) [.ref (q 201), .ref (q 202), .int 0, .long 0, .long 1, .ref (q 203), .ref (q 204), .ref (q 205), .ref (q 206), .ref (q 207), .int 0, .int 0, .int 0, .int 0, .int 0, .int 0, .int (-1), .int (-1), .int 0, .int 0, .int 0, .ref (q 208), .int 0, .int 0, .ref (q 209), .ref (q 210), .ref (q 211), .ref (q 212), .ref (q 213), .int 0, .int 0, .ref (q 214), .ref (q 215), .ref (q 216), .int 0, .int 0] (Nat.le_of_ble_eq_true rfl) 1 (by decide)) ci_X12_is qm_X12_89 ⟨Nat.le_of_ble_eq_true rfl, Nat.le_of_ble_eq_true rfl⟩ ⟨Nat.le_of_ble_eq_true rfl, Nat.le_of_ble_eq_true rfl⟩ [0] [1] rfl rfl rfl rfl rfl (by decide) 0 rfl rfl rfl hl.1 rfl (Nat.le_of_ble_eq_true rfl) dX12_mean_37 (fun u_10 H locs hφ hP hD hS => ?_)
        have hP : va_P D vwCl [((q 201), .inl (k 1, 5340, .inl at0))] H := hP
        have hD : va_D A [((q 201), .inl (k 1, 5340, .inl at0))] := hD
        refine W.eq (g2 := F0 m 40 ls [.int 0]) rfl ?_
        exact EWz hx hb hr hlocks hS () rfl rfl trivial nil_P nil_D dX12_mean_40
set_option maxHeartbeats 4000000 in
set_option maxRecDepth 100000 in
theorem r_back (l : Launch) (D : va_G) (k : Nat → ClassId) (q : Nat → Nat) : WD (σ := Unit) l yX12_back cX12_back 1 (some .int) 8 0 0 D k [.ref (q 200)] [((q 200), .inr (12, [.ref (q 201), .ref (q 202), .int 0, .long 0, .long 1, .ref (q 203), .ref (q 204), .ref (q 205), .ref (q 206), .ref (q 207), .int 0, .int 0, .int 0, .int 0, .int 0, .int 0, .int (-1), .int (-1), .int 0, .int 0, .int 0, .ref (q 208), .int 0, .int 0, .ref (q 209), .ref (q 210), .ref (q 211), .ref (q 212), .ref (q 213), .int 0, .int 0, .ref (q 214), .ref (q 215), .ref (q 216), .int 0, .int 0])), ((q 201), .inl (k 1, 5340, .inl at0))] (fun _ => some (.int (-1))) (fun _ => True) (fun _ => []) := by
  refine MW (by decide) (Nat.le_of_ble_eq_true rfl) (fun p e s m below meth c ls A hx hb hml hr hlocks hin hts hown hKK hP hD hS hA hl => ?_)
  have hK := hKK.1
  have hl : lv_has ls 1 [(0, .ref (q 200))] := hl
  refine lv_aload_n hx hb dX12_back_0 rfl (lv_at hl 0 rfl) ?_
  refine va_get (D := D) (ci := 12) (v := .int 0) (C := RX12) (T := TX12) (N := 36) hx hb hts iX12 hown hK hP 0 rfl rfl 35 (by decide) (hts _ qf_X12_412) (fun _ h => h) rfl dX12_back_1 ?_
  refine lv_if_ne (tgt := 14) hx hb dX12_back_4 (by decide) (fun c => absurd (by decide) c) (fun _ => ?_)
  refine lv_aload_n hx hb dX12_back_7 rfl (lv_at hl 0 rfl) ?_
  refine lv_bipush (v := 6) hx hb dX12_back_8 (by decide) ?_
  refine CWV (As := [.int 6]) (rest := []) (wc := [((q 200), .inr (12, [.ref (q 201), .ref (q 202), .int 0, .long 0, .long 1, .ref (q 203), .ref (q 204), .ref (q 205), .ref (q 206), .ref (q 207), .int 0, .int 0, .int 0, .int 0, .int 0, .int 0, .int (-1), .int (-1), .int 0, .int 0, .int 0, .ref (q 208), .int 0, .int 0, .ref (q 209), .ref (q 210), .ref (q 211), .ref (q 212), .ref (q 213), .int 0, .int 0, .ref (q 214), .ref (q 215), .ref (q 216), .int 0, .int 0]))]) (wr := [((q 201), .inl (k 1, 5340, .inl at0))]) hx hb hml hown hts hKK hP hD hS hA (m_refuse l D k (q 200) [.ref (q 201), .ref (q 202), .int 0, .long 0, .long 1, .ref (q 203), .ref (q 204), .ref (q 205), .ref (q 206), .ref (q 207), .int 0, .int 0, .int 0, .int 0, .int 0, .int 0, .int (-1), .int (-1), .int 0, .int 0, .int 0, .ref (q 208), .int 0, .int 0, .ref (q 209), .ref (q 210), .ref (q 211), .ref (q 212), .ref (q 213), .int 0, .int 0, .ref (q 214), .ref (q 215), .ref (q 216), .int 0, .int 0] (Nat.le_of_ble_eq_true rfl) 6) ci_X12_refuse qm_X12_81 ⟨Nat.le_of_ble_eq_true rfl, Nat.le_of_ble_eq_true rfl⟩ ⟨Nat.le_of_ble_eq_true rfl, Nat.le_of_ble_eq_true rfl⟩ [0] [1] rfl rfl rfl rfl rfl (by decide) 0 rfl rfl rfl hl.1 rfl (Nat.le_of_ble_eq_true rfl) dX12_back_10 (fun u_1 H locs hφ hP hD hS => ?_)
  have hP : va_P D vwCl [((q 201), .inl (k 1, 5340, .inl at0))] H := hP
  have hD : va_D A [((q 201), .inl (k 1, 5340, .inl at0))] := hD
  refine W.eq (g2 := F0 m 13 ls [.int (-1)]) rfl ?_
  exact EWi hx hb hr hlocks hS () rfl trivial nil_P nil_D dX12_back_13
set_option maxHeartbeats 4000000 in
set_option maxRecDepth 100000 in
theorem r_centre (l : Launch) (D : va_G) (k : Nat → ClassId) (q : Nat → Nat) (a : Int32) : WD (σ := Unit) l yX12_centre cX12_centre 5 (some .int) 8 0 0 D k [.ref (q 200), .int a] [((q 200), .inr (12, [.ref (q 201), .ref (q 202), .int 0, .long 0, .long 1, .ref (q 203), .ref (q 204), .ref (q 205), .ref (q 206), .ref (q 207), .int 0, .int 0, .int 0, .int 0, .int 0, .int 0, .int (-1), .int (-1), .int 0, .int 0, .int 0, .ref (q 208), .int 0, .int 0, .ref (q 209), .ref (q 210), .ref (q 211), .ref (q 212), .ref (q 213), .int 0, .int 0, .ref (q 214), .ref (q 215), .ref (q 216), .int 0, .int 0])), ((q 201), .inl (k 1, 5340, .inl at0))] (fun _ => some (.int (-1))) (fun _ => True) (fun _ => []) := by
  refine MW (by decide) (Nat.le_of_ble_eq_true rfl) (fun p e s m below meth c ls A hx hb hml hr hlocks hin hts hown hKK hP hD hS hA hl => ?_)
  have hK := hKK.1
  have hl : lv_has ls 5 [(0, .ref (q 200)), (1, .int a)] := hl
  refine lv_iload_n hx hb dX12_centre_0 rfl (lv_at hl 1 rfl) ?_
  refine CRS (As := [.int a]) (rest := []) hx hb hml hown hts hKK (hP.sub (ws' := []) [] rfl) (m_isWeek l D k a) ci_X12_isWeek qm_X12_268 ⟨Nat.le_of_ble_eq_true rfl, Nat.le_of_ble_eq_true rfl⟩ ⟨Nat.le_of_ble_eq_true rfl, Nat.le_of_ble_eq_true rfl⟩ rfl hl.1 rfl (Nat.le_of_ble_eq_true rfl) dX12_centre_1 ?_
  refine lv_if_ne (tgt := 13) hx hb dX12_centre_4 (by decide) (fun c_1 => ?_) (fun c_1 => ?_)
  ·
    refine lv_iconst (v := (-1)) hx hb dX12_centre_13 (by decide) ?_
    refine lv_istore_n (lv' := [(2, .int (-1)), (0, .ref (q 200)), (1, .int a)]) hx hb dX12_centre_14 rfl hl (by decide) rfl (fun ls hl => ?_)
    refine lv_ldc (own := RX12) (v := 1000000) hx hb hown (hts _ qk_X12_88) dX12_centre_15 ?_
    refine lv_istore_n (lv' := [(3, .int 1000000), (2, .int (-1)), (0, .ref (q 200)), (1, .int a)]) hx hb dX12_centre_17 rfl hl (by decide) rfl (fun ls hl => ?_)
    refine lv_iconst (v := 0) hx hb dX12_centre_18 (by decide) ?_
    refine lv_istore (lv' := [(4, .int 0), (3, .int 1000000), (2, .int (-1)), (0, .ref (q 200)), (1, .int a)]) hx hb dX12_centre_19 hl (by decide) rfl (fun ls hl => ?_)
    refine lv_iload hx hb dX12_centre_21 (lv_at hl 0 rfl) ?_
    refine lv_aload_n hx hb dX12_centre_23 rfl (lv_at hl 3 rfl) ?_
    refine va_get (D := D) (ci := 12) (v := .ref (q 201)) (C := RX12) (T := TX12) (N := 36) hx hb hts iX12 hown hK hP 0 rfl rfl 0 (by decide) (hts _ qf_X12_7) (fun _ h => h) rfl dX12_centre_24 ?_
    refine lv_iconst (v := 0) hx hb dX12_centre_27 (by decide) ?_
    refine va_iald hx hb hK hP 1 1 rfl rfl (xin 0 5340 rfl (by decide) (by decide)) dX12_centre_28 ?_
    refine lv_topi (fun x_2 ex_2 => ?_)
    obtain rfl : x_2 = 0 := ex_2.trans (by decide +kernel)
    refine lv_icmp_ge (tgt := 74) hx hb dX12_centre_29 (by decide) (fun _ => ?_) (fun c => absurd (by decide) c)
    refine lv_aload_n hx hb dX12_centre_74 rfl (lv_at hl 3 rfl) ?_
    refine lv_iload_n hx hb dX12_centre_75 rfl (lv_at hl 2 rfl) ?_
    refine CWV (As := [.int (-1)]) (rest := []) (wc := [((q 200), .inr (12, [.ref (q 201), .ref (q 202), .int 0, .long 0, .long 1, .ref (q 203), .ref (q 204), .ref (q 205), .ref (q 206), .ref (q 207), .int 0, .int 0, .int 0, .int 0, .int 0, .int 0, .int (-1), .int (-1), .int 0, .int 0, .int 0, .ref (q 208), .int 0, .int 0, .ref (q 209), .ref (q 210), .ref (q 211), .ref (q 212), .ref (q 213), .int 0, .int 0, .ref (q 214), .ref (q 215), .ref (q 216), .int 0, .int 0]))]) (wr := [((q 201), .inl (k 1, 5340, .inl at0))]) hx hb hml hown hts hKK hP hD hS hA (m_orNone l D k (q 200) [.ref (q 201), .ref (q 202), .int 0, .long 0, .long 1, .ref (q 203), .ref (q 204), .ref (q 205), .ref (q 206), .ref (q 207), .int 0, .int 0, .int 0, .int 0, .int 0, .int 0, .int (-1), .int (-1), .int 0, .int 0, .int 0, .ref (q 208), .int 0, .int 0, .ref (q 209), .ref (q 210), .ref (q 211), .ref (q 212), .ref (q 213), .int 0, .int 0, .ref (q 214), .ref (q 215), .ref (q 216), .int 0, .int 0] (Nat.le_of_ble_eq_true rfl)) ci_X12_orNone qm_X12_290 ⟨Nat.le_of_ble_eq_true rfl, Nat.le_of_ble_eq_true rfl⟩ ⟨Nat.le_of_ble_eq_true rfl, Nat.le_of_ble_eq_true rfl⟩ [0] [1] rfl rfl rfl rfl rfl (by decide) 0 rfl rfl rfl hl.1 rfl (Nat.le_of_ble_eq_true rfl) dX12_centre_76 (fun u_3 H locs hφ hP hD hS => ?_)
    have hP : va_P D vwCl [((q 201), .inl (k 1, 5340, .inl at0))] H := hP
    have hD : va_D A [((q 201), .inl (k 1, 5340, .inl at0))] := hD
    refine W.eq (g2 := F0 m 79 ls [.int (-1)]) rfl ?_
    exact EWi hx hb hr hlocks hS () rfl trivial nil_P nil_D dX12_centre_79
  ·
    refine lv_aload_n hx hb dX12_centre_7 rfl (lv_at hl 0 rfl) ?_
    refine lv_iconst (v := 1) hx hb dX12_centre_8 (by decide) ?_
    refine CWV (As := [.int 1]) (rest := []) (wc := [((q 200), .inr (12, [.ref (q 201), .ref (q 202), .int 0, .long 0, .long 1, .ref (q 203), .ref (q 204), .ref (q 205), .ref (q 206), .ref (q 207), .int 0, .int 0, .int 0, .int 0, .int 0, .int 0, .int (-1), .int (-1), .int 0, .int 0, .int 0, .ref (q 208), .int 0, .int 0, .ref (q 209), .ref (q 210), .ref (q 211), .ref (q 212), .ref (q 213), .int 0, .int 0, .ref (q 214), .ref (q 215), .ref (q 216), .int 0, .int 0]))]) (wr := [((q 201), .inl (k 1, 5340, .inl at0))]) hx hb hml hown hts hKK hP hD hS hA (m_refuse l D k (q 200) [.ref (q 201), .ref (q 202), .int 0, .long 0, .long 1, .ref (q 203), .ref (q 204), .ref (q 205), .ref (q 206), .ref (q 207), .int 0, .int 0, .int 0, .int 0, .int 0, .int 0, .int (-1), .int (-1), .int 0, .int 0, .int 0, .ref (q 208), .int 0, .int 0, .ref (q 209), .ref (q 210), .ref (q 211), .ref (q 212), .ref (q 213), .int 0, .int 0, .ref (q 214), .ref (q 215), .ref (q 216), .int 0, .int 0] (Nat.le_of_ble_eq_true rfl) 1) ci_X12_refuse qm_X12_81 ⟨Nat.le_of_ble_eq_true rfl, Nat.le_of_ble_eq_true rfl⟩ ⟨Nat.le_of_ble_eq_true rfl, Nat.le_of_ble_eq_true rfl⟩ [0] [1] rfl rfl rfl rfl rfl (by decide) 0 rfl rfl rfl hl.1 rfl (Nat.le_of_ble_eq_true rfl) dX12_centre_9 (fun u_4 H locs hφ hP hD hS => ?_)
    have hP : va_P D vwCl [((q 201), .inl (k 1, 5340, .inl at0))] H := hP
    have hD : va_D A [((q 201), .inl (k 1, 5340, .inl at0))] := hD
    refine W.eq (g2 := F0 m 12 ls [.int (-1)]) rfl ?_
    exact EWi hx hb hr hlocks hS () rfl trivial nil_P nil_D dX12_centre_12
set_option maxHeartbeats 4000000 in
set_option maxRecDepth 100000 in
theorem r_remote (l : Launch) (D : va_G) (k : Nat → ClassId) (q : Nat → Nat) (a : Int32) : WD (σ := Unit) l yX12_remote cX12_remote 7 (some .int) 8 0 0 D k [.ref (q 200), .int a] [((q 200), .inr (12, [.ref (q 201), .ref (q 202), .int 0, .long 0, .long 1, .ref (q 203), .ref (q 204), .ref (q 205), .ref (q 206), .ref (q 207), .int 0, .int 0, .int 0, .int 0, .int 0, .int 0, .int (-1), .int (-1), .int 0, .int 0, .int 0, .ref (q 208), .int 0, .int 0, .ref (q 209), .ref (q 210), .ref (q 211), .ref (q 212), .ref (q 213), .int 0, .int 0, .ref (q 214), .ref (q 215), .ref (q 216), .int 0, .int 0])), ((q 201), .inl (k 1, 5340, .inl at0))] (fun _ => some (.int (-1))) (fun _ => True) (fun _ => []) := by
  refine MW (by decide) (Nat.le_of_ble_eq_true rfl) (fun p e s m below meth c ls A hx hb hml hr hlocks hin hts hown hKK hP hD hS hA hl => ?_)
  have hK := hKK.1
  have hl : lv_has ls 7 [(0, .ref (q 200)), (1, .int a)] := hl
  refine lv_iload_n hx hb dX12_remote_0 rfl (lv_at hl 1 rfl) ?_
  refine CRS (As := [.int a]) (rest := []) hx hb hml hown hts hKK (hP.sub (ws' := []) [] rfl) (m_isWeek l D k a) ci_X12_isWeek qm_X12_268 ⟨Nat.le_of_ble_eq_true rfl, Nat.le_of_ble_eq_true rfl⟩ ⟨Nat.le_of_ble_eq_true rfl, Nat.le_of_ble_eq_true rfl⟩ rfl hl.1 rfl (Nat.le_of_ble_eq_true rfl) dX12_remote_1 ?_
  refine lv_if_ne (tgt := 13) hx hb dX12_remote_4 (by decide) (fun c_1 => ?_) (fun c_1 => ?_)
  ·
    refine lv_iconst (v := (-1)) hx hb dX12_remote_13 (by decide) ?_
    refine lv_istore_n (lv' := [(2, .int (-1)), (0, .ref (q 200)), (1, .int a)]) hx hb dX12_remote_14 rfl hl (by decide) rfl (fun ls hl => ?_)
    refine lv_iconst (v := (-1)) hx hb dX12_remote_15 (by decide) ?_
    refine lv_istore_n (lv' := [(3, .int (-1)), (2, .int (-1)), (0, .ref (q 200)), (1, .int a)]) hx hb dX12_remote_16 rfl hl (by decide) rfl (fun ls hl => ?_)
    refine lv_iconst (v := 0) hx hb dX12_remote_17 (by decide) ?_
    refine lv_istore (lv' := [(4, .int 0), (3, .int (-1)), (2, .int (-1)), (0, .ref (q 200)), (1, .int a)]) hx hb dX12_remote_18 hl (by decide) rfl (fun ls hl => ?_)
    refine lv_iload hx hb dX12_remote_20 (lv_at hl 0 rfl) ?_
    refine lv_aload_n hx hb dX12_remote_22 rfl (lv_at hl 3 rfl) ?_
    refine va_get (D := D) (ci := 12) (v := .ref (q 201)) (C := RX12) (T := TX12) (N := 36) hx hb hts iX12 hown hK hP 0 rfl rfl 0 (by decide) (hts _ qf_X12_7) (fun _ h => h) rfl dX12_remote_23 ?_
    refine lv_iconst (v := 0) hx hb dX12_remote_26 (by decide) ?_
    refine va_iald hx hb hK hP 1 1 rfl rfl (xin 0 5340 rfl (by decide) (by decide)) dX12_remote_27 ?_
    refine lv_topi (fun x_2 ex_2 => ?_)
    obtain rfl : x_2 = 0 := ex_2.trans (by decide +kernel)
    refine lv_icmp_ge (tgt := 111) hx hb dX12_remote_28 (by decide) (fun _ => ?_) (fun c => absurd (by decide) c)
    refine lv_aload_n hx hb dX12_remote_111 rfl (lv_at hl 3 rfl) ?_
    refine lv_iload_n hx hb dX12_remote_112 rfl (lv_at hl 2 rfl) ?_
    refine CWV (As := [.int (-1)]) (rest := []) (wc := [((q 200), .inr (12, [.ref (q 201), .ref (q 202), .int 0, .long 0, .long 1, .ref (q 203), .ref (q 204), .ref (q 205), .ref (q 206), .ref (q 207), .int 0, .int 0, .int 0, .int 0, .int 0, .int 0, .int (-1), .int (-1), .int 0, .int 0, .int 0, .ref (q 208), .int 0, .int 0, .ref (q 209), .ref (q 210), .ref (q 211), .ref (q 212), .ref (q 213), .int 0, .int 0, .ref (q 214), .ref (q 215), .ref (q 216), .int 0, .int 0]))]) (wr := [((q 201), .inl (k 1, 5340, .inl at0))]) hx hb hml hown hts hKK hP hD hS hA (m_orNone l D k (q 200) [.ref (q 201), .ref (q 202), .int 0, .long 0, .long 1, .ref (q 203), .ref (q 204), .ref (q 205), .ref (q 206), .ref (q 207), .int 0, .int 0, .int 0, .int 0, .int 0, .int 0, .int (-1), .int (-1), .int 0, .int 0, .int 0, .ref (q 208), .int 0, .int 0, .ref (q 209), .ref (q 210), .ref (q 211), .ref (q 212), .ref (q 213), .int 0, .int 0, .ref (q 214), .ref (q 215), .ref (q 216), .int 0, .int 0] (Nat.le_of_ble_eq_true rfl)) ci_X12_orNone qm_X12_290 ⟨Nat.le_of_ble_eq_true rfl, Nat.le_of_ble_eq_true rfl⟩ ⟨Nat.le_of_ble_eq_true rfl, Nat.le_of_ble_eq_true rfl⟩ [0] [1] rfl rfl rfl rfl rfl (by decide) 0 rfl rfl rfl hl.1 rfl (Nat.le_of_ble_eq_true rfl) dX12_remote_113 (fun u_3 H locs hφ hP hD hS => ?_)
    have hP : va_P D vwCl [((q 201), .inl (k 1, 5340, .inl at0))] H := hP
    have hD : va_D A [((q 201), .inl (k 1, 5340, .inl at0))] := hD
    refine W.eq (g2 := F0 m 116 ls [.int (-1)]) rfl ?_
    exact EWi hx hb hr hlocks hS () rfl trivial nil_P nil_D dX12_remote_116
  ·
    refine lv_aload_n hx hb dX12_remote_7 rfl (lv_at hl 0 rfl) ?_
    refine lv_iconst (v := 1) hx hb dX12_remote_8 (by decide) ?_
    refine CWV (As := [.int 1]) (rest := []) (wc := [((q 200), .inr (12, [.ref (q 201), .ref (q 202), .int 0, .long 0, .long 1, .ref (q 203), .ref (q 204), .ref (q 205), .ref (q 206), .ref (q 207), .int 0, .int 0, .int 0, .int 0, .int 0, .int 0, .int (-1), .int (-1), .int 0, .int 0, .int 0, .ref (q 208), .int 0, .int 0, .ref (q 209), .ref (q 210), .ref (q 211), .ref (q 212), .ref (q 213), .int 0, .int 0, .ref (q 214), .ref (q 215), .ref (q 216), .int 0, .int 0]))]) (wr := [((q 201), .inl (k 1, 5340, .inl at0))]) hx hb hml hown hts hKK hP hD hS hA (m_refuse l D k (q 200) [.ref (q 201), .ref (q 202), .int 0, .long 0, .long 1, .ref (q 203), .ref (q 204), .ref (q 205), .ref (q 206), .ref (q 207), .int 0, .int 0, .int 0, .int 0, .int 0, .int 0, .int (-1), .int (-1), .int 0, .int 0, .int 0, .ref (q 208), .int 0, .int 0, .ref (q 209), .ref (q 210), .ref (q 211), .ref (q 212), .ref (q 213), .int 0, .int 0, .ref (q 214), .ref (q 215), .ref (q 216), .int 0, .int 0] (Nat.le_of_ble_eq_true rfl) 1) ci_X12_refuse qm_X12_81 ⟨Nat.le_of_ble_eq_true rfl, Nat.le_of_ble_eq_true rfl⟩ ⟨Nat.le_of_ble_eq_true rfl, Nat.le_of_ble_eq_true rfl⟩ [0] [1] rfl rfl rfl rfl rfl (by decide) 0 rfl rfl rfl hl.1 rfl (Nat.le_of_ble_eq_true rfl) dX12_remote_9 (fun u_4 H locs hφ hP hD hS => ?_)
    have hP : va_P D vwCl [((q 201), .inl (k 1, 5340, .inl at0))] H := hP
    have hD : va_D A [((q 201), .inl (k 1, 5340, .inl at0))] := hD
    refine W.eq (g2 := F0 m 12 ls [.int (-1)]) rfl ?_
    exact EWi hx hb hr hlocks hS () rfl trivial nil_P nil_D dX12_remote_12
set_option maxHeartbeats 4000000 in
set_option maxRecDepth 100000 in
theorem r_disputes (l : Launch) (D : va_G) (k : Nat → ClassId) (q : Nat → Nat) : WD (σ := Unit) l yX12_disputes cX12_disputes 4 (some .int) 8 0 0 D k [.ref (q 200)] [((q 200), .inr (12, [.ref (q 201), .ref (q 202), .int 0, .long 0, .long 1, .ref (q 203), .ref (q 204), .ref (q 205), .ref (q 206), .ref (q 207), .int 0, .int 0, .int 0, .int 0, .int 0, .int 0, .int (-1), .int (-1), .int 0, .int 0, .int 0, .ref (q 208), .int 0, .int 0, .ref (q 209), .ref (q 210), .ref (q 211), .ref (q 212), .ref (q 213), .int 0, .int 0, .ref (q 214), .ref (q 215), .ref (q 216), .int 0, .int 0])), ((q 201), .inl (k 1, 5340, .inl at0))] (fun _ => some (.int 0)) (fun _ => True) (fun _ => []) := by
  refine MW (by decide) (Nat.le_of_ble_eq_true rfl) (fun p e s m below meth c ls A hx hb hml hr hlocks hin hts hown hKK hP hD hS hA hl => ?_)
  have hK := hKK.1
  have hl : lv_has ls 4 [(0, .ref (q 200))] := hl
  refine lv_aload_n hx hb dX12_disputes_0 rfl (lv_at hl 0 rfl) ?_
  refine CWV (As := []) (rest := []) (wc := [((q 200), .inr (12, [.ref (q 201), .ref (q 202), .int 0, .long 0, .long 1, .ref (q 203), .ref (q 204), .ref (q 205), .ref (q 206), .ref (q 207), .int 0, .int 0, .int 0, .int 0, .int 0, .int 0, .int (-1), .int (-1), .int 0, .int 0, .int 0, .ref (q 208), .int 0, .int 0, .ref (q 209), .ref (q 210), .ref (q 211), .ref (q 212), .ref (q 213), .int 0, .int 0, .ref (q 214), .ref (q 215), .ref (q 216), .int 0, .int 0])), ((q 201), .inl (k 1, 5340, .inl at0))]) (wr := []) hx hb hml hown hts hKK hP hD hS hA (m_laysOrders l D k q) ci_X12_laysOrders qm_X12_330 ⟨Nat.le_of_ble_eq_true rfl, Nat.le_of_ble_eq_true rfl⟩ ⟨Nat.le_of_ble_eq_true rfl, Nat.le_of_ble_eq_true rfl⟩ [0, 1] [] rfl rfl rfl rfl rfl (by decide) 0 rfl rfl rfl hl.1 rfl (Nat.le_of_ble_eq_true rfl) dX12_disputes_1 (fun u_1 H locs hφ hP hD hS => ?_)
  have hP : va_P D vwCl [((q 200), .inr (12, [.ref (q 201), .ref (q 202), .int 0, .long 0, .long 1, .ref (q 203), .ref (q 204), .ref (q 205), .ref (q 206), .ref (q 207), .int 0, .int 0, .int 0, .int 0, .int 0, .int 0, .int (-1), .int (-1), .int 0, .int 0, .int 0, .ref (q 208), .int 0, .int 0, .ref (q 209), .ref (q 210), .ref (q 211), .ref (q 212), .ref (q 213), .int 0, .int 0, .ref (q 214), .ref (q 215), .ref (q 216), .int 0, .int 0])), ((q 201), .inl (k 1, 5340, .inl at0))] H := hP
  have hD : va_D A [((q 200), .inr (12, [.ref (q 201), .ref (q 202), .int 0, .long 0, .long 1, .ref (q 203), .ref (q 204), .ref (q 205), .ref (q 206), .ref (q 207), .int 0, .int 0, .int 0, .int 0, .int 0, .int 0, .int (-1), .int (-1), .int 0, .int 0, .int 0, .ref (q 208), .int 0, .int 0, .ref (q 209), .ref (q 210), .ref (q 211), .ref (q 212), .ref (q 213), .int 0, .int 0, .ref (q 214), .ref (q 215), .ref (q 216), .int 0, .int 0])), ((q 201), .inl (k 1, 5340, .inl at0))] := hD
  refine W.eq (g2 := F0 m 4 ls []) rfl ?_
  refine lv_iconst (v := 0) hx hb dX12_disputes_4 (by decide) ?_
  refine lv_istore_n (lv' := [(1, .int 0), (0, .ref (q 200))]) hx hb dX12_disputes_5 rfl hl (by decide) rfl (fun ls hl => ?_)
  refine lv_iconst (v := 0) hx hb dX12_disputes_6 (by decide) ?_
  refine lv_istore_n (lv' := [(2, .int 0), (1, .int 0), (0, .ref (q 200))]) hx hb dX12_disputes_7 rfl hl (by decide) rfl (fun ls hl => ?_)
  refine lv_iload_n hx hb dX12_disputes_8 rfl (lv_at hl 0 rfl) ?_
  refine lv_aload_n hx hb dX12_disputes_9 rfl (lv_at hl 2 rfl) ?_
  refine va_get (D := D) (ci := 12) (v := .ref (q 201)) (C := RX12) (T := TX12) (N := 36) hx hb hts iX12 hown hK hP 0 rfl rfl 0 (by decide) (hts _ qf_X12_7) (fun _ h => h) rfl dX12_disputes_10 ?_
  refine lv_iconst (v := 4) hx hb dX12_disputes_13 (by decide) ?_
  refine va_iald hx hb hK hP 1 1 rfl rfl (xin 4 5340 rfl (by decide) (by decide)) dX12_disputes_14 ?_
  refine lv_topi (fun x_2 ex_2 => ?_)
  obtain rfl : x_2 = 0 := ex_2.trans (by decide +kernel)
  refine lv_icmp_ge (tgt := 54) hx hb dX12_disputes_15 (by decide) (fun _ => ?_) (fun c => absurd (by decide) c)
  refine lv_aload_n hx hb dX12_disputes_54 rfl (lv_at hl 2 rfl) ?_
  refine lv_iload_n hx hb dX12_disputes_55 rfl (lv_at hl 1 rfl) ?_
  refine CWV (As := [.int 0]) (rest := []) (wc := [((q 200), .inr (12, [.ref (q 201), .ref (q 202), .int 0, .long 0, .long 1, .ref (q 203), .ref (q 204), .ref (q 205), .ref (q 206), .ref (q 207), .int 0, .int 0, .int 0, .int 0, .int 0, .int 0, .int (-1), .int (-1), .int 0, .int 0, .int 0, .ref (q 208), .int 0, .int 0, .ref (q 209), .ref (q 210), .ref (q 211), .ref (q 212), .ref (q 213), .int 0, .int 0, .ref (q 214), .ref (q 215), .ref (q 216), .int 0, .int 0]))]) (wr := [((q 201), .inl (k 1, 5340, .inl at0))]) hx hb hml hown hts hKK hP hD hS hA (m_gives l D k (q 200) [.ref (q 201), .ref (q 202), .int 0, .long 0, .long 1, .ref (q 203), .ref (q 204), .ref (q 205), .ref (q 206), .ref (q 207), .int 0, .int 0, .int 0, .int 0, .int 0, .int 0, .int (-1), .int (-1), .int 0, .int 0, .int 0, .ref (q 208), .int 0, .int 0, .ref (q 209), .ref (q 210), .ref (q 211), .ref (q 212), .ref (q 213), .int 0, .int 0, .ref (q 214), .ref (q 215), .ref (q 216), .int 0, .int 0] (Nat.le_of_ble_eq_true rfl) 0) ci_X12_gives qm_X12_85 ⟨Nat.le_of_ble_eq_true rfl, Nat.le_of_ble_eq_true rfl⟩ ⟨Nat.le_of_ble_eq_true rfl, Nat.le_of_ble_eq_true rfl⟩ [0] [1] rfl rfl rfl rfl rfl (by decide) 0 rfl rfl rfl hl.1 rfl (Nat.le_of_ble_eq_true rfl) dX12_disputes_56 (fun u_3 H locs hφ hP hD hS => ?_)
  have hP : va_P D vwCl [((q 201), .inl (k 1, 5340, .inl at0))] H := hP
  have hD : va_D A [((q 201), .inl (k 1, 5340, .inl at0))] := hD
  refine W.eq (g2 := F0 m 59 ls [.int 0]) rfl ?_
  exact EWi hx hb hr hlocks hS () rfl trivial nil_P nil_D dX12_disputes_59
set_option maxHeartbeats 4000000 in
set_option maxRecDepth 100000 in
theorem r_idle (l : Launch) (D : va_G) (k : Nat → ClassId) (q : Nat → Nat) : WD (σ := Unit) l yX12_idle cX12_idle 5 (some .int) 8 0 0 D k [.ref (q 200)] [((q 200), .inr (12, [.ref (q 201), .ref (q 202), .int 0, .long 0, .long 1, .ref (q 203), .ref (q 204), .ref (q 205), .ref (q 206), .ref (q 207), .int 0, .int 0, .int 0, .int 0, .int 0, .int 0, .int (-1), .int (-1), .int 0, .int 0, .int 0, .ref (q 208), .int 0, .int 0, .ref (q 209), .ref (q 210), .ref (q 211), .ref (q 212), .ref (q 213), .int 0, .int 0, .ref (q 214), .ref (q 215), .ref (q 216), .int 0, .int 0])), ((q 201), .inl (k 1, 5340, .inl at0))] (fun _ => some (.int 0)) (fun _ => True) (fun _ => []) := by
  refine MW (by decide) (Nat.le_of_ble_eq_true rfl) (fun p e s m below meth c ls A hx hb hml hr hlocks hin hts hown hKK hP hD hS hA hl => ?_)
  have hK := hKK.1
  have hl : lv_has ls 5 [(0, .ref (q 200))] := hl
  refine lv_aload_n hx hb dX12_idle_0 rfl (lv_at hl 0 rfl) ?_
  refine CWV (As := []) (rest := []) (wc := [((q 200), .inr (12, [.ref (q 201), .ref (q 202), .int 0, .long 0, .long 1, .ref (q 203), .ref (q 204), .ref (q 205), .ref (q 206), .ref (q 207), .int 0, .int 0, .int 0, .int 0, .int 0, .int 0, .int (-1), .int (-1), .int 0, .int 0, .int 0, .ref (q 208), .int 0, .int 0, .ref (q 209), .ref (q 210), .ref (q 211), .ref (q 212), .ref (q 213), .int 0, .int 0, .ref (q 214), .ref (q 215), .ref (q 216), .int 0, .int 0])), ((q 201), .inl (k 1, 5340, .inl at0))]) (wr := []) hx hb hml hown hts hKK hP hD hS hA (m_laysOrders l D k q) ci_X12_laysOrders qm_X12_330 ⟨Nat.le_of_ble_eq_true rfl, Nat.le_of_ble_eq_true rfl⟩ ⟨Nat.le_of_ble_eq_true rfl, Nat.le_of_ble_eq_true rfl⟩ [0, 1] [] rfl rfl rfl rfl rfl (by decide) 0 rfl rfl rfl hl.1 rfl (Nat.le_of_ble_eq_true rfl) dX12_idle_1 (fun u_1 H locs hφ hP hD hS => ?_)
  have hP : va_P D vwCl [((q 200), .inr (12, [.ref (q 201), .ref (q 202), .int 0, .long 0, .long 1, .ref (q 203), .ref (q 204), .ref (q 205), .ref (q 206), .ref (q 207), .int 0, .int 0, .int 0, .int 0, .int 0, .int 0, .int (-1), .int (-1), .int 0, .int 0, .int 0, .ref (q 208), .int 0, .int 0, .ref (q 209), .ref (q 210), .ref (q 211), .ref (q 212), .ref (q 213), .int 0, .int 0, .ref (q 214), .ref (q 215), .ref (q 216), .int 0, .int 0])), ((q 201), .inl (k 1, 5340, .inl at0))] H := hP
  have hD : va_D A [((q 200), .inr (12, [.ref (q 201), .ref (q 202), .int 0, .long 0, .long 1, .ref (q 203), .ref (q 204), .ref (q 205), .ref (q 206), .ref (q 207), .int 0, .int 0, .int 0, .int 0, .int 0, .int 0, .int (-1), .int (-1), .int 0, .int 0, .int 0, .ref (q 208), .int 0, .int 0, .ref (q 209), .ref (q 210), .ref (q 211), .ref (q 212), .ref (q 213), .int 0, .int 0, .ref (q 214), .ref (q 215), .ref (q 216), .int 0, .int 0])), ((q 201), .inl (k 1, 5340, .inl at0))] := hD
  refine W.eq (g2 := F0 m 4 ls []) rfl ?_
  refine lv_iconst (v := 0) hx hb dX12_idle_4 (by decide) ?_
  refine lv_istore_n (lv' := [(1, .int 0), (0, .ref (q 200))]) hx hb dX12_idle_5 rfl hl (by decide) rfl (fun ls hl => ?_)
  refine lv_iconst (v := 0) hx hb dX12_idle_6 (by decide) ?_
  refine lv_istore_n (lv' := [(2, .int 0), (1, .int 0), (0, .ref (q 200))]) hx hb dX12_idle_7 rfl hl (by decide) rfl (fun ls hl => ?_)
  refine lv_iload_n hx hb dX12_idle_8 rfl (lv_at hl 0 rfl) ?_
  refine lv_aload_n hx hb dX12_idle_9 rfl (lv_at hl 2 rfl) ?_
  refine va_get (D := D) (ci := 12) (v := .ref (q 201)) (C := RX12) (T := TX12) (N := 36) hx hb hts iX12 hown hK hP 0 rfl rfl 0 (by decide) (hts _ qf_X12_7) (fun _ h => h) rfl dX12_idle_10 ?_
  refine lv_iconst (v := 4) hx hb dX12_idle_13 (by decide) ?_
  refine va_iald hx hb hK hP 1 1 rfl rfl (xin 4 5340 rfl (by decide) (by decide)) dX12_idle_14 ?_
  refine lv_topi (fun x_2 ex_2 => ?_)
  obtain rfl : x_2 = 0 := ex_2.trans (by decide +kernel)
  refine lv_icmp_ge (tgt := 68) hx hb dX12_idle_15 (by decide) (fun _ => ?_) (fun c => absurd (by decide) c)
  refine lv_aload_n hx hb dX12_idle_68 rfl (lv_at hl 2 rfl) ?_
  refine lv_iload_n hx hb dX12_idle_69 rfl (lv_at hl 1 rfl) ?_
  refine CWV (As := [.int 0]) (rest := []) (wc := [((q 200), .inr (12, [.ref (q 201), .ref (q 202), .int 0, .long 0, .long 1, .ref (q 203), .ref (q 204), .ref (q 205), .ref (q 206), .ref (q 207), .int 0, .int 0, .int 0, .int 0, .int 0, .int 0, .int (-1), .int (-1), .int 0, .int 0, .int 0, .ref (q 208), .int 0, .int 0, .ref (q 209), .ref (q 210), .ref (q 211), .ref (q 212), .ref (q 213), .int 0, .int 0, .ref (q 214), .ref (q 215), .ref (q 216), .int 0, .int 0]))]) (wr := [((q 201), .inl (k 1, 5340, .inl at0))]) hx hb hml hown hts hKK hP hD hS hA (m_gives l D k (q 200) [.ref (q 201), .ref (q 202), .int 0, .long 0, .long 1, .ref (q 203), .ref (q 204), .ref (q 205), .ref (q 206), .ref (q 207), .int 0, .int 0, .int 0, .int 0, .int 0, .int 0, .int (-1), .int (-1), .int 0, .int 0, .int 0, .ref (q 208), .int 0, .int 0, .ref (q 209), .ref (q 210), .ref (q 211), .ref (q 212), .ref (q 213), .int 0, .int 0, .ref (q 214), .ref (q 215), .ref (q 216), .int 0, .int 0] (Nat.le_of_ble_eq_true rfl) 0) ci_X12_gives qm_X12_85 ⟨Nat.le_of_ble_eq_true rfl, Nat.le_of_ble_eq_true rfl⟩ ⟨Nat.le_of_ble_eq_true rfl, Nat.le_of_ble_eq_true rfl⟩ [0] [1] rfl rfl rfl rfl rfl (by decide) 0 rfl rfl rfl hl.1 rfl (Nat.le_of_ble_eq_true rfl) dX12_idle_70 (fun u_3 H locs hφ hP hD hS => ?_)
  have hP : va_P D vwCl [((q 201), .inl (k 1, 5340, .inl at0))] H := hP
  have hD : va_D A [((q 201), .inl (k 1, 5340, .inl at0))] := hD
  refine W.eq (g2 := F0 m 73 ls [.int 0]) rfl ?_
  exact EWi hx hb hr hlocks hS () rfl trivial nil_P nil_D dX12_idle_73
set_option maxHeartbeats 4000000 in
set_option maxRecDepth 100000 in
theorem r_uniform (l : Launch) (D : va_G) (k : Nat → ClassId) (q : Nat → Nat) : WD (σ := Unit) l yX12_uniform cX12_uniform 3 (some .int) 8 0 0 D k [.ref (q 200)] [((q 200), .inr (12, [.ref (q 201), .ref (q 202), .int 0, .long 0, .long 1, .ref (q 203), .ref (q 204), .ref (q 205), .ref (q 206), .ref (q 207), .int 0, .int 0, .int 0, .int 0, .int 0, .int 0, .int (-1), .int (-1), .int 0, .int 0, .int 0, .ref (q 208), .int 0, .int 0, .ref (q 209), .ref (q 210), .ref (q 211), .ref (q 212), .ref (q 213), .int 0, .int 0, .ref (q 214), .ref (q 215), .ref (q 216), .int 0, .int 0])), ((q 201), .inl (k 1, 5340, .inl at0))] (fun _ => some (.int 1)) (fun _ => True) (fun _ => []) := by
  refine MW (by decide) (Nat.le_of_ble_eq_true rfl) (fun p e s m below meth c ls A hx hb hml hr hlocks hin hts hown hKK hP hD hS hA hl => ?_)
  have hK := hKK.1
  have hl : lv_has ls 3 [(0, .ref (q 200))] := hl
  refine lv_iconst (v := 0) hx hb dX12_uniform_0 (by decide) ?_
  refine lv_istore_n (lv' := [(1, .int 0), (0, .ref (q 200))]) hx hb dX12_uniform_1 rfl hl (by decide) rfl (fun ls hl => ?_)
  refine lv_iconst (v := 0) hx hb dX12_uniform_2 (by decide) ?_
  refine lv_istore_n (lv' := [(2, .int 0), (1, .int 0), (0, .ref (q 200))]) hx hb dX12_uniform_3 rfl hl (by decide) rfl (fun ls hl => ?_)
  refine lv_iload_n hx hb dX12_uniform_4 rfl (lv_at hl 0 rfl) ?_
  refine lv_aload_n hx hb dX12_uniform_5 rfl (lv_at hl 2 rfl) ?_
  refine va_get (D := D) (ci := 12) (v := .ref (q 201)) (C := RX12) (T := TX12) (N := 36) hx hb hts iX12 hown hK hP 0 rfl rfl 0 (by decide) (hts _ qf_X12_7) (fun _ h => h) rfl dX12_uniform_6 ?_
  refine lv_iconst (v := 3) hx hb dX12_uniform_9 (by decide) ?_
  refine va_iald hx hb hK hP 1 1 rfl rfl (xin 3 5340 rfl (by decide) (by decide)) dX12_uniform_10 ?_
  refine lv_topi (fun x_1 ex_1 => ?_)
  obtain rfl : x_1 = 0 := ex_1.trans (by decide +kernel)
  refine lv_icmp_gt (tgt := 62) hx hb dX12_uniform_11 (by decide) (fun c => absurd c (by decide)) (fun _ => ?_)
  refine lv_iload_n hx hb dX12_uniform_14 rfl (lv_at hl 1 rfl) ?_
  refine lv_aload_n hx hb dX12_uniform_15 rfl (lv_at hl 2 rfl) ?_
  refine va_get (D := D) (ci := 12) (v := .ref (q 201)) (C := RX12) (T := TX12) (N := 36) hx hb hts iX12 hown hK hP 0 rfl rfl 0 (by decide) (hts _ qf_X12_7) (fun _ h => h) rfl dX12_uniform_16 ?_
  refine lv_bipush (v := 118) hx hb dX12_uniform_19 (by decide) ?_
  refine lv_iload_n hx hb dX12_uniform_21 rfl (lv_at hl 0 rfl) ?_
  refine lv_iadd hx hb dX12_uniform_22 ?_
  refine lv_topi (fun x_2 ex_2 => ?_)
  obtain rfl : x_2 = 118 := ex_2.trans (by decide +kernel)
  refine va_iald hx hb hK hP 1 1 rfl rfl (xin 118 5340 rfl (by decide) (by decide)) dX12_uniform_23 ?_
  refine lv_topi (fun x_3 ex_3 => ?_)
  obtain rfl : x_3 = 0 := ex_3.trans (by decide +kernel)
  refine lv_if_eq (tgt := 49) hx hb dX12_uniform_24 (by decide) (fun _ => ?_) (fun c => absurd (by decide) c)
  refine lv_iconst (v := 1) hx hb dX12_uniform_49 (by decide) ?_
  refine lv_goto (tgt := 54) hx hb dX12_uniform_50 (by decide) ?_
  refine lv_iadd hx hb dX12_uniform_54 ?_
  refine lv_topi (fun x_4 ex_4 => ?_)
  obtain rfl : x_4 = 1 := ex_4.trans (by decide +kernel)
  refine lv_istore_n (lv' := [(1, .int 1), (2, .int 0), (0, .ref (q 200))]) hx hb dX12_uniform_55 rfl hl (by decide) rfl (fun ls hl => ?_)
  refine lv_iinc (v := 1) (lv' := [(2, .int 1), (1, .int 1), (0, .ref (q 200))]) hx hb dX12_uniform_56 hl (k := 1) rfl (by decide +kernel) (by decide) rfl (fun ls hl => ?_)
  refine lv_goto (tgt := 4) hx hb dX12_uniform_59 (by decide) ?_
  refine lv_iload_n hx hb dX12_uniform_4 rfl (lv_at hl 0 rfl) ?_
  refine lv_aload_n hx hb dX12_uniform_5 rfl (lv_at hl 2 rfl) ?_
  refine va_get (D := D) (ci := 12) (v := .ref (q 201)) (C := RX12) (T := TX12) (N := 36) hx hb hts iX12 hown hK hP 0 rfl rfl 0 (by decide) (hts _ qf_X12_7) (fun _ h => h) rfl dX12_uniform_6 ?_
  refine lv_iconst (v := 3) hx hb dX12_uniform_9 (by decide) ?_
  refine va_iald hx hb hK hP 1 1 rfl rfl (xin 3 5340 rfl (by decide) (by decide)) dX12_uniform_10 ?_
  refine lv_topi (fun x_5 ex_5 => ?_)
  obtain rfl : x_5 = 0 := ex_5.trans (by decide +kernel)
  refine lv_icmp_gt (tgt := 62) hx hb dX12_uniform_11 (by decide) (fun _ => ?_) (fun c => absurd (by decide) c)
  refine lv_aload_n hx hb dX12_uniform_62 rfl (lv_at hl 2 rfl) ?_
  refine lv_iload_n hx hb dX12_uniform_63 rfl (lv_at hl 1 rfl) ?_
  refine CWV (As := [.int 1]) (rest := []) (wc := [((q 200), .inr (12, [.ref (q 201), .ref (q 202), .int 0, .long 0, .long 1, .ref (q 203), .ref (q 204), .ref (q 205), .ref (q 206), .ref (q 207), .int 0, .int 0, .int 0, .int 0, .int 0, .int 0, .int (-1), .int (-1), .int 0, .int 0, .int 0, .ref (q 208), .int 0, .int 0, .ref (q 209), .ref (q 210), .ref (q 211), .ref (q 212), .ref (q 213), .int 0, .int 0, .ref (q 214), .ref (q 215), .ref (q 216), .int 0, .int 0]))]) (wr := [((q 201), .inl (k 1, 5340, .inl at0))]) hx hb hml hown hts hKK hP hD hS hA (m_gives l D k (q 200) [.ref (q 201), .ref (q 202), .int 0, .long 0, .long 1, .ref (q 203), .ref (q 204), .ref (q 205), .ref (q 206), .ref (q 207), .int 0, .int 0, .int 0, .int 0, .int 0, .int 0, .int (-1), .int (-1), .int 0, .int 0, .int 0, .ref (q 208), .int 0, .int 0, .ref (q 209), .ref (q 210), .ref (q 211), .ref (q 212), .ref (q 213), .int 0, .int 0, .ref (q 214), .ref (q 215), .ref (q 216), .int 0, .int 0] (Nat.le_of_ble_eq_true rfl) 1) ci_X12_gives qm_X12_85 ⟨Nat.le_of_ble_eq_true rfl, Nat.le_of_ble_eq_true rfl⟩ ⟨Nat.le_of_ble_eq_true rfl, Nat.le_of_ble_eq_true rfl⟩ [0] [1] rfl rfl rfl rfl rfl (by decide) 0 rfl rfl rfl hl.1 rfl (Nat.le_of_ble_eq_true rfl) dX12_uniform_64 (fun u_6 H locs hφ hP hD hS => ?_)
  have hP : va_P D vwCl [((q 201), .inl (k 1, 5340, .inl at0))] H := hP
  have hD : va_D A [((q 201), .inl (k 1, 5340, .inl at0))] := hD
  refine W.eq (g2 := F0 m 67 ls [.int 1]) rfl ?_
  exact EWi hx hb hr hlocks hS () rfl trivial nil_P nil_D dX12_uniform_67
set_option maxHeartbeats 4000000 in
set_option maxRecDepth 100000 in
theorem r_fault (l : Launch) (D : va_G) (k : Nat → ClassId) (q : Nat → Nat) (a : Int32) : WD (σ := Unit) l yX12_fault cX12_fault 2 (some .int) 8 0 0 D k [.ref (q 200), .int a] [((q 200), .inr (12, [.ref (q 201), .ref (q 202), .int 0, .long 0, .long 1, .ref (q 203), .ref (q 204), .ref (q 205), .ref (q 206), .ref (q 207), .int 0, .int 0, .int 0, .int 0, .int 0, .int 0, .int (-1), .int (-1), .int 0, .int 0, .int 0, .ref (q 208), .int 0, .int 0, .ref (q 209), .ref (q 210), .ref (q 211), .ref (q 212), .ref (q 213), .int 0, .int 0, .ref (q 214), .ref (q 215), .ref (q 216), .int 0, .int 0])), ((q 201), .inl (k 1, 5340, .inl at0))] (fun _ => some (.int (-1))) (fun _ => True) (fun _ => []) := by
  refine MW (by decide) (Nat.le_of_ble_eq_true rfl) (fun p e s m below meth c ls A hx hb hml hr hlocks hin hts hown hKK hP hD hS hA hl => ?_)
  have hK := hKK.1
  have hl : lv_has ls 2 [(0, .ref (q 200)), (1, .int a)] := hl
  refine lv_iload_n hx hb dX12_fault_0 rfl (lv_at hl 1 rfl) ?_
  refine lv_if_ne (tgt := 11) hx hb dX12_fault_1 (by decide) (fun c_1 => ?_) (fun c_1 => ?_)
  ·
    refine lv_iload_n hx hb dX12_fault_11 rfl (lv_at hl 1 rfl) ?_
    refine lv_iconst (v := 1) hx hb dX12_fault_12 (by decide) ?_
    refine lv_icmp_ne (tgt := 23) hx hb dX12_fault_13 (by decide) (fun c_2 => ?_) (fun c_2 => ?_)
    ·
      refine lv_iconst (v := (-1)) hx hb dX12_fault_23 (by decide) ?_
      exact EWi hx hb hr hlocks hS () rfl trivial nil_P nil_D dX12_fault_24
    ·
      refine lv_aload_n hx hb dX12_fault_16 rfl (lv_at hl 0 rfl) ?_
      refine va_get (D := D) (ci := 12) (v := .int (-1)) (C := RX12) (T := TX12) (N := 36) hx hb hts iX12 hown hK hP 0 rfl rfl 17 (by decide) (hts _ qf_X12_41) (fun _ h => h) rfl dX12_fault_17 ?_
      refine lv_goto (tgt := 24) hx hb dX12_fault_20 (by decide) ?_
      exact EWi hx hb hr hlocks hS () rfl trivial nil_P nil_D dX12_fault_24
  ·
    refine lv_aload_n hx hb dX12_fault_4 rfl (lv_at hl 0 rfl) ?_
    refine va_get (D := D) (ci := 12) (v := .int (-1)) (C := RX12) (T := TX12) (N := 36) hx hb hts iX12 hown hK hP 0 rfl rfl 16 (by decide) (hts _ qf_X12_37) (fun _ h => h) rfl dX12_fault_5 ?_
    refine lv_goto (tgt := 24) hx hb dX12_fault_8 (by decide) ?_
    exact EWi hx hb hr hlocks hS () rfl trivial nil_P nil_D dX12_fault_24
set_option maxHeartbeats 4000000 in
set_option maxRecDepth 100000 in
theorem r_lived (l : Launch) (D : va_G) (k : Nat → ClassId) (q : Nat → Nat) (a : Int32) : WD (σ := Unit) l yX12_lived cX12_lived 2 (some .int) 8 0 0 D k [.ref (q 200), .int a] [((q 200), .inr (12, [.ref (q 201), .ref (q 202), .int 0, .long 0, .long 1, .ref (q 203), .ref (q 204), .ref (q 205), .ref (q 206), .ref (q 207), .int 0, .int 0, .int 0, .int 0, .int 0, .int 0, .int (-1), .int (-1), .int 0, .int 0, .int 0, .ref (q 208), .int 0, .int 0, .ref (q 209), .ref (q 210), .ref (q 211), .ref (q 212), .ref (q 213), .int 0, .int 0, .ref (q 214), .ref (q 215), .ref (q 216), .int 0, .int 0])), ((q 201), .inl (k 1, 5340, .inl at0))] (fun _ => some (.int (-1))) (fun _ => True) (fun _ => []) := by
  refine MW (by decide) (Nat.le_of_ble_eq_true rfl) (fun p e s m below meth c ls A hx hb hml hr hlocks hin hts hown hKK hP hD hS hA hl => ?_)
  have hK := hKK.1
  have hl : lv_has ls 2 [(0, .ref (q 200)), (1, .int a)] := hl
  refine lv_iload_n hx hb dX12_lived_0 rfl (lv_at hl 1 rfl) ?_
  refine lv_if_lt (tgt := 9) hx hb dX12_lived_1 (by decide) (fun c_1 => ?_) (fun c_1 => ?_)
  ·
    refine lv_aload_n hx hb dX12_lived_9 rfl (lv_at hl 0 rfl) ?_
    refine lv_iconst (v := 1) hx hb dX12_lived_10 (by decide) ?_
    refine CWV (As := [.int 1]) (rest := []) (wc := [((q 200), .inr (12, [.ref (q 201), .ref (q 202), .int 0, .long 0, .long 1, .ref (q 203), .ref (q 204), .ref (q 205), .ref (q 206), .ref (q 207), .int 0, .int 0, .int 0, .int 0, .int 0, .int 0, .int (-1), .int (-1), .int 0, .int 0, .int 0, .ref (q 208), .int 0, .int 0, .ref (q 209), .ref (q 210), .ref (q 211), .ref (q 212), .ref (q 213), .int 0, .int 0, .ref (q 214), .ref (q 215), .ref (q 216), .int 0, .int 0]))]) (wr := [((q 201), .inl (k 1, 5340, .inl at0))]) hx hb hml hown hts hKK hP hD hS hA (m_refuse l D k (q 200) [.ref (q 201), .ref (q 202), .int 0, .long 0, .long 1, .ref (q 203), .ref (q 204), .ref (q 205), .ref (q 206), .ref (q 207), .int 0, .int 0, .int 0, .int 0, .int 0, .int 0, .int (-1), .int (-1), .int 0, .int 0, .int 0, .ref (q 208), .int 0, .int 0, .ref (q 209), .ref (q 210), .ref (q 211), .ref (q 212), .ref (q 213), .int 0, .int 0, .ref (q 214), .ref (q 215), .ref (q 216), .int 0, .int 0] (Nat.le_of_ble_eq_true rfl) 1) ci_X12_refuse qm_X12_81 ⟨Nat.le_of_ble_eq_true rfl, Nat.le_of_ble_eq_true rfl⟩ ⟨Nat.le_of_ble_eq_true rfl, Nat.le_of_ble_eq_true rfl⟩ [0] [1] rfl rfl rfl rfl rfl (by decide) 0 rfl rfl rfl hl.1 rfl (Nat.le_of_ble_eq_true rfl) dX12_lived_11 (fun u_2 H locs hφ hP hD hS => ?_)
    have hP : va_P D vwCl [((q 201), .inl (k 1, 5340, .inl at0))] H := hP
    have hD : va_D A [((q 201), .inl (k 1, 5340, .inl at0))] := hD
    refine W.eq (g2 := F0 m 14 ls [.int (-1)]) rfl ?_
    refine lv_goto (tgt := 43) hx hb dX12_lived_14 (by decide) ?_
    exact EWi hx hb hr hlocks hS () rfl trivial nil_P nil_D dX12_lived_43
  ·
    refine lv_iload_n hx hb dX12_lived_4 rfl (lv_at hl 1 rfl) ?_
    refine lv_iconst (v := 4) hx hb dX12_lived_5 (by decide) ?_
    refine lv_icmp_le (tgt := 17) hx hb dX12_lived_6 (by decide) (fun c_3 => ?_) (fun c_3 => ?_)
    ·
      refine lv_aload_n hx hb dX12_lived_17 rfl (lv_at hl 0 rfl) ?_
      refine va_get (D := D) (ci := 12) (v := .int 0) (C := RX12) (T := TX12) (N := 36) hx hb hts iX12 hown hK hP 0 rfl rfl 34 (by decide) (hts _ qf_X12_404) (fun _ h => h) rfl dX12_lived_18 ?_
      refine lv_if_eq (tgt := 37) hx hb dX12_lived_21 (by decide) (fun _ => ?_) (fun c => absurd (by decide) c)
      refine lv_aload_n hx hb dX12_lived_37 rfl (lv_at hl 0 rfl) ?_
      refine lv_bipush (v := 6) hx hb dX12_lived_38 (by decide) ?_
      refine CWV (As := [.int 6]) (rest := []) (wc := [((q 200), .inr (12, [.ref (q 201), .ref (q 202), .int 0, .long 0, .long 1, .ref (q 203), .ref (q 204), .ref (q 205), .ref (q 206), .ref (q 207), .int 0, .int 0, .int 0, .int 0, .int 0, .int 0, .int (-1), .int (-1), .int 0, .int 0, .int 0, .ref (q 208), .int 0, .int 0, .ref (q 209), .ref (q 210), .ref (q 211), .ref (q 212), .ref (q 213), .int 0, .int 0, .ref (q 214), .ref (q 215), .ref (q 216), .int 0, .int 0]))]) (wr := [((q 201), .inl (k 1, 5340, .inl at0))]) hx hb hml hown hts hKK hP hD hS hA (m_refuse l D k (q 200) [.ref (q 201), .ref (q 202), .int 0, .long 0, .long 1, .ref (q 203), .ref (q 204), .ref (q 205), .ref (q 206), .ref (q 207), .int 0, .int 0, .int 0, .int 0, .int 0, .int 0, .int (-1), .int (-1), .int 0, .int 0, .int 0, .ref (q 208), .int 0, .int 0, .ref (q 209), .ref (q 210), .ref (q 211), .ref (q 212), .ref (q 213), .int 0, .int 0, .ref (q 214), .ref (q 215), .ref (q 216), .int 0, .int 0] (Nat.le_of_ble_eq_true rfl) 6) ci_X12_refuse qm_X12_81 ⟨Nat.le_of_ble_eq_true rfl, Nat.le_of_ble_eq_true rfl⟩ ⟨Nat.le_of_ble_eq_true rfl, Nat.le_of_ble_eq_true rfl⟩ [0] [1] rfl rfl rfl rfl rfl (by decide) 0 rfl rfl rfl hl.1 rfl (Nat.le_of_ble_eq_true rfl) dX12_lived_40 (fun u_4 H locs hφ hP hD hS => ?_)
      have hP : va_P D vwCl [((q 201), .inl (k 1, 5340, .inl at0))] H := hP
      have hD : va_D A [((q 201), .inl (k 1, 5340, .inl at0))] := hD
      refine W.eq (g2 := F0 m 43 ls [.int (-1)]) rfl ?_
      exact EWi hx hb hr hlocks hS () rfl trivial nil_P nil_D dX12_lived_43
    ·
      refine lv_aload_n hx hb dX12_lived_9 rfl (lv_at hl 0 rfl) ?_
      refine lv_iconst (v := 1) hx hb dX12_lived_10 (by decide) ?_
      refine CWV (As := [.int 1]) (rest := []) (wc := [((q 200), .inr (12, [.ref (q 201), .ref (q 202), .int 0, .long 0, .long 1, .ref (q 203), .ref (q 204), .ref (q 205), .ref (q 206), .ref (q 207), .int 0, .int 0, .int 0, .int 0, .int 0, .int 0, .int (-1), .int (-1), .int 0, .int 0, .int 0, .ref (q 208), .int 0, .int 0, .ref (q 209), .ref (q 210), .ref (q 211), .ref (q 212), .ref (q 213), .int 0, .int 0, .ref (q 214), .ref (q 215), .ref (q 216), .int 0, .int 0]))]) (wr := [((q 201), .inl (k 1, 5340, .inl at0))]) hx hb hml hown hts hKK hP hD hS hA (m_refuse l D k (q 200) [.ref (q 201), .ref (q 202), .int 0, .long 0, .long 1, .ref (q 203), .ref (q 204), .ref (q 205), .ref (q 206), .ref (q 207), .int 0, .int 0, .int 0, .int 0, .int 0, .int 0, .int (-1), .int (-1), .int 0, .int 0, .int 0, .ref (q 208), .int 0, .int 0, .ref (q 209), .ref (q 210), .ref (q 211), .ref (q 212), .ref (q 213), .int 0, .int 0, .ref (q 214), .ref (q 215), .ref (q 216), .int 0, .int 0] (Nat.le_of_ble_eq_true rfl) 1) ci_X12_refuse qm_X12_81 ⟨Nat.le_of_ble_eq_true rfl, Nat.le_of_ble_eq_true rfl⟩ ⟨Nat.le_of_ble_eq_true rfl, Nat.le_of_ble_eq_true rfl⟩ [0] [1] rfl rfl rfl rfl rfl (by decide) 0 rfl rfl rfl hl.1 rfl (Nat.le_of_ble_eq_true rfl) dX12_lived_11 (fun u_5 H locs hφ hP hD hS => ?_)
      have hP : va_P D vwCl [((q 201), .inl (k 1, 5340, .inl at0))] H := hP
      have hD : va_D A [((q 201), .inl (k 1, 5340, .inl at0))] := hD
      refine W.eq (g2 := F0 m 14 ls [.int (-1)]) rfl ?_
      refine lv_goto (tgt := 43) hx hb dX12_lived_14 (by decide) ?_
      exact EWi hx hb hr hlocks hS () rfl trivial nil_P nil_D dX12_lived_43
set_option maxHeartbeats 4000000 in
set_option maxRecDepth 100000 in
theorem r_span (l : Launch) (D : va_G) (k : Nat → ClassId) (q : Nat → Nat) (a : Int32) : WD (σ := Unit) l yX12_span cX12_span 5 (some .int) 8 0 0 D k [.ref (q 200), .int a] [((q 200), .inr (12, [.ref (q 201), .ref (q 202), .int 0, .long 0, .long 1, .ref (q 203), .ref (q 204), .ref (q 205), .ref (q 206), .ref (q 207), .int 0, .int 0, .int 0, .int 0, .int 0, .int 0, .int (-1), .int (-1), .int 0, .int 0, .int 0, .ref (q 208), .int 0, .int 0, .ref (q 209), .ref (q 210), .ref (q 211), .ref (q 212), .ref (q 213), .int 0, .int 0, .ref (q 214), .ref (q 215), .ref (q 216), .int 0, .int 0])), ((q 201), .inl (k 1, 5340, .inl at0))] (fun _ => some (.int (inA a 500))) (fun _ => True) (fun _ => []) := by
  refine MW (by decide) (Nat.le_of_ble_eq_true rfl) (fun p e s m below meth c ls A hx hb hml hr hlocks hin hts hown hKK hP hD hS hA hl => ?_)
  have hK := hKK.1
  have hl : lv_has ls 5 [(0, .ref (q 200)), (1, .int a)] := hl
  refine lv_iload_n hx hb dX12_span_0 rfl (lv_at hl 1 rfl) ?_
  refine CRS (As := [.int a]) (rest := []) hx hb hml hown hts hKK (hP.sub (ws' := []) [] rfl) (m_isAsked l D k a) ci_X12_isAsked qm_X12_258 ⟨Nat.le_of_ble_eq_true rfl, Nat.le_of_ble_eq_true rfl⟩ ⟨Nat.le_of_ble_eq_true rfl, Nat.le_of_ble_eq_true rfl⟩ rfl hl.1 rfl (Nat.le_of_ble_eq_true rfl) dX12_span_1 ?_
  refine lv_if_ne (tgt := 13) hx hb dX12_span_4 (by decide) (fun c_1 => ?_) (fun c_1 => ?_)
  ·
    refine lv_iconst (v := 0) hx hb dX12_span_13 (by decide) ?_
    refine lv_istore_n (lv' := [(2, .int 0), (0, .ref (q 200)), (1, .int a)]) hx hb dX12_span_14 rfl hl (by decide) rfl (fun ls hl => ?_)
    refine lv_iconst (v := 0) hx hb dX12_span_15 (by decide) ?_
    refine lv_istore_n (lv' := [(3, .int 0), (2, .int 0), (0, .ref (q 200)), (1, .int a)]) hx hb dX12_span_16 rfl hl (by decide) rfl (fun ls hl => ?_)
    refine lv_iload_n hx hb dX12_span_17 rfl (lv_at hl 0 rfl) ?_
    refine lv_aload_n hx hb dX12_span_18 rfl (lv_at hl 2 rfl) ?_
    refine va_get (D := D) (ci := 12) (v := .ref (q 201)) (C := RX12) (T := TX12) (N := 36) hx hb hts iX12 hown hK hP 0 rfl rfl 0 (by decide) (hts _ qf_X12_7) (fun _ h => h) rfl dX12_span_19 ?_
    refine lv_iconst (v := 0) hx hb dX12_span_22 (by decide) ?_
    refine va_iald hx hb hK hP 1 1 rfl rfl (xin 0 5340 rfl (by decide) (by decide)) dX12_span_23 ?_
    refine lv_topi (fun x_2 ex_2 => ?_)
    obtain rfl : x_2 = 0 := ex_2.trans (by decide +kernel)
    refine lv_icmp_ge (tgt := 62) hx hb dX12_span_24 (by decide) (fun _ => ?_) (fun c => absurd (by decide) c)
    refine lv_aload_n hx hb dX12_span_62 rfl (lv_at hl 2 rfl) ?_
    refine lv_iload_n hx hb dX12_span_63 rfl (lv_at hl 1 rfl) ?_
    refine CWV (As := [.int 0]) (rest := []) (wc := [((q 200), .inr (12, [.ref (q 201), .ref (q 202), .int 0, .long 0, .long 1, .ref (q 203), .ref (q 204), .ref (q 205), .ref (q 206), .ref (q 207), .int 0, .int 0, .int 0, .int 0, .int 0, .int 0, .int (-1), .int (-1), .int 0, .int 0, .int 0, .ref (q 208), .int 0, .int 0, .ref (q 209), .ref (q 210), .ref (q 211), .ref (q 212), .ref (q 213), .int 0, .int 0, .ref (q 214), .ref (q 215), .ref (q 216), .int 0, .int 0]))]) (wr := [((q 201), .inl (k 1, 5340, .inl at0))]) hx hb hml hown hts hKK hP hD hS hA (m_gives l D k (q 200) [.ref (q 201), .ref (q 202), .int 0, .long 0, .long 1, .ref (q 203), .ref (q 204), .ref (q 205), .ref (q 206), .ref (q 207), .int 0, .int 0, .int 0, .int 0, .int 0, .int 0, .int (-1), .int (-1), .int 0, .int 0, .int 0, .ref (q 208), .int 0, .int 0, .ref (q 209), .ref (q 210), .ref (q 211), .ref (q 212), .ref (q 213), .int 0, .int 0, .ref (q 214), .ref (q 215), .ref (q 216), .int 0, .int 0] (Nat.le_of_ble_eq_true rfl) 0) ci_X12_gives qm_X12_85 ⟨Nat.le_of_ble_eq_true rfl, Nat.le_of_ble_eq_true rfl⟩ ⟨Nat.le_of_ble_eq_true rfl, Nat.le_of_ble_eq_true rfl⟩ [0] [1] rfl rfl rfl rfl rfl (by decide) 0 rfl rfl rfl hl.1 rfl (Nat.le_of_ble_eq_true rfl) dX12_span_64 (fun u_3 H locs hφ hP hD hS => ?_)
    have hP : va_P D vwCl [((q 201), .inl (k 1, 5340, .inl at0))] H := hP
    have hD : va_D A [((q 201), .inl (k 1, 5340, .inl at0))] := hD
    refine W.eq (g2 := F0 m 67 ls [.int 0]) rfl ?_
    exact EWi hx hb hr hlocks hS () (by simp [inA, c_1]) trivial nil_P nil_D dX12_span_67
  ·
    refine lv_aload_n hx hb dX12_span_7 rfl (lv_at hl 0 rfl) ?_
    refine lv_iconst (v := 1) hx hb dX12_span_8 (by decide) ?_
    refine CWV (As := [.int 1]) (rest := []) (wc := [((q 200), .inr (12, [.ref (q 201), .ref (q 202), .int 0, .long 0, .long 1, .ref (q 203), .ref (q 204), .ref (q 205), .ref (q 206), .ref (q 207), .int 0, .int 0, .int 0, .int 0, .int 0, .int 0, .int (-1), .int (-1), .int 0, .int 0, .int 0, .ref (q 208), .int 0, .int 0, .ref (q 209), .ref (q 210), .ref (q 211), .ref (q 212), .ref (q 213), .int 0, .int 0, .ref (q 214), .ref (q 215), .ref (q 216), .int 0, .int 0]))]) (wr := [((q 201), .inl (k 1, 5340, .inl at0))]) hx hb hml hown hts hKK hP hD hS hA (m_refuse l D k (q 200) [.ref (q 201), .ref (q 202), .int 0, .long 0, .long 1, .ref (q 203), .ref (q 204), .ref (q 205), .ref (q 206), .ref (q 207), .int 0, .int 0, .int 0, .int 0, .int 0, .int 0, .int (-1), .int (-1), .int 0, .int 0, .int 0, .ref (q 208), .int 0, .int 0, .ref (q 209), .ref (q 210), .ref (q 211), .ref (q 212), .ref (q 213), .int 0, .int 0, .ref (q 214), .ref (q 215), .ref (q 216), .int 0, .int 0] (Nat.le_of_ble_eq_true rfl) 1) ci_X12_refuse qm_X12_81 ⟨Nat.le_of_ble_eq_true rfl, Nat.le_of_ble_eq_true rfl⟩ ⟨Nat.le_of_ble_eq_true rfl, Nat.le_of_ble_eq_true rfl⟩ [0] [1] rfl rfl rfl rfl rfl (by decide) 0 rfl rfl rfl hl.1 rfl (Nat.le_of_ble_eq_true rfl) dX12_span_9 (fun u_4 H locs hφ hP hD hS => ?_)
    have hP : va_P D vwCl [((q 201), .inl (k 1, 5340, .inl at0))] H := hP
    have hD : va_D A [((q 201), .inl (k 1, 5340, .inl at0))] := hD
    refine W.eq (g2 := F0 m 12 ls [.int (-1)]) rfl ?_
    exact EWi hx hb hr hlocks hS () (by simp [inA, c_1]) trivial nil_P nil_D dX12_span_12
