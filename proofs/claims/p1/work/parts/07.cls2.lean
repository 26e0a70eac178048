theorem bw_nat {v : Int32} (n : Nat) (hn : n < 2 ^ 31) (h : ¬ bw v (nI n) = 0) : ∃ j : Nat, j ≤ n ∧ v = nI j := by
  unfold bw at h
  by_cases h1 : v < 0
  · rw [if_pos h1] at h; exact absurd rfl h
  · rw [if_neg h1] at h
    by_cases h2 : nI n < v
    · rw [if_pos h2] at h; exact absurd rfl h
    · exact nI_of2 (nI_toInt hn) h1 (Int32.not_lt.mp h2)
theorem bw0 {v : Int32} (h : ¬ bw v 0 = 0) : v = 0 := by
  obtain ⟨j, hj, rfl⟩ := bw_nat 0 (by decide) h
  have : j = 0 := by omega
  subst this; rfl
theorem bw4 {v : Int32} (h : ¬ bw v 3 = 0) : v = 0 ∨ v = 1 ∨ v = 2 ∨ v = 3 := by
  obtain ⟨j, hj, rfl⟩ := bw_nat 3 (by decide) h
  rcases (show j = 0 ∨ j = 1 ∨ j = 2 ∨ j = 3 by omega) with rfl | rfl | rfl | rfl
  · exact Or.inl rfl
  · exact Or.inr (Or.inl rfl)
  · exact Or.inr (Or.inr (Or.inl rfl))
  · exact Or.inr (Or.inr (Or.inr rfl))
def wip (t : Int32) : Int32 := if bw t 3 = 0 then 1 else 2
theorem wip_ne (t : Int32) : ¬ wip t = 0 := by
  unfold wip
  by_cases h : bw t 3 = 0
  · rw [if_pos h]; decide
  · rw [if_neg h]; decide
def trA (a b c : Int32) : Int32 := if bw a 3 = 0 then 0 else if bw b 3 = 0 then 0 else if bw c 60 = 0 then 0 else 1
def inA (a m : Int32) : Int32 := if bw a m = 0 then -1 else 0
def psA (a : Int32) : Int32 := if a < 1 then -1 else if 99 < a then -1 else a
theorem inA5 {a : Int32} (h0 : ¬ a = 0) (h1 : ¬ a = 1) (h2 : ¬ a = 2) (h3 : ¬ a = 3) (h4 : ¬ a = 4) (h5 : ¬ a = 5) : inA a 5 = -1 := by
  unfold inA
  by_cases h : bw a 5 = 0
  · rw [if_pos h]
  · obtain ⟨j, hj, rfl⟩ := bw_nat 5 (by decide) h
    rcases (show j = 0 ∨ j = 1 ∨ j = 2 ∨ j = 3 ∨ j = 4 ∨ j = 5 by omega) with rfl | rfl | rfl | rfl | rfl | rfl
    · exact absurd rfl h0
    · exact absurd rfl h1
    · exact absurd rfl h2
    · exact absurd rfl h3
    · exact absurd rfl h4
    · exact absurd rfl h5
set_option maxHeartbeats 4000000 in
set_option maxRecDepth 100000 in
theorem c_fillJ (l : Launch) (D : va_G) (k : Nat → ClassId) (h n : Nat) (f : Nat → Int64) (v : Int64) (hn : n < 2 ^ 31) : WD (σ := (Nat → Int64)) l yJ7_fill_d0a16 cJ7_fill_d0a16 5 none 0 0 0 D k [.ref h, .long v] [(h, .inl (k 2, n, .inr (.inl f)))] (fun _ => none) (fun _ => True) (fun g => [(h, .inl (k 2, n, .inr (.inl g)))]) := by
  refine MW (by decide) (Nat.le_of_ble_eq_true rfl) (fun p e s m below meth c ls A hx hb hml hr hlocks hin hts hown hKK hP hD hS hA hl => ?_)
  have hK := hKK.1
  have hl : lv_has ls 5 [(0, .ref h), (1, .long v)] := hl
  refine lv_iconst (v := 0) hx hb dJ7_fill_d0a16_0 (by decide) ?_
  refine lv_istore_n (lv' := [(3, .int 0), (0, .ref h), (1, .long v)]) hx hb dJ7_fill_d0a16_1 rfl hl (by decide) rfl (fun ls hl => ?_)
  refine lv_aload_n hx hb dJ7_fill_d0a16_2 rfl (lv_at hl 1 rfl) ?_
  refine va_alen (v := (nI n)) hx hb hK hP 0 2 rfl (ty := .long) rfl rfl dJ7_fill_d0a16_3 ?_
  refine lv_istore (lv' := [(4, .int (nI n)), (3, .int 0), (0, .ref h), (1, .long v)]) hx hb dJ7_fill_d0a16_4 hl (by decide) rfl (fun ls hl => ?_)
  have HL : ∀ (r i : Nat) (g : Nat → Int64) (H : Heap) (locs : List Loc) (ls : Array Slot), i + r = n → va_P D vwCl [(h, .inl (k 2, n, .inr (.inl g)))] H → va_D A [(h, .inl (k 2, n, .inr (.inl g)))] → va_S A s.heap H locs → lv_has ls 5 [(4, .int (nI n)), (3, .int (nI i)), (0, .ref h), (1, .long v)] → W p l e (rj 0 0 0) s m [.ref h, .long v].toArray below meth c H locs 0 0 (MQ below (QW (σ := (Nat → Int64)) (fun _ => none) (fun _ => True) (fun g => [(h, .inl (k 2, n, .inr (.inl g)))]) D A) [.ref h, .long v].toArray s 0 0 A) (F0 m 6 ls []) := by
    intro r
    induction r with
    | zero =>
      intro i g H locs ls hi  hP hD hS hl
      refine lv_iload_n hx hb dJ7_fill_d0a16_6 rfl (lv_at hl 1 rfl) ?_
      refine lv_iload hx hb dJ7_fill_d0a16_7 (lv_at hl 0 rfl) ?_
      refine lv_icmp_ge (tgt := 22) hx hb dJ7_fill_d0a16_9 (by decide) (fun _ => ?_) (fun c => absurd (nI_le (a := n) (b := i) (by omega) (by omega)) c)
      exact EWv hx hb hr hlocks hS g rfl trivial hP hD dJ7_fill_d0a16_22
    | succ r ih =>
      intro i g H locs ls hi  hP hD hS hl
      refine lv_iload_n hx hb dJ7_fill_d0a16_6 rfl (lv_at hl 1 rfl) ?_
      refine lv_iload hx hb dJ7_fill_d0a16_7 (lv_at hl 0 rfl) ?_
      refine lv_icmp_ge (tgt := 22) hx hb dJ7_fill_d0a16_9 (by decide) (fun c => absurd c (nI_ge (a := i) (b := n) (by omega) (by omega))) (fun _ => ?_)
      refine lv_aload_n hx hb dJ7_fill_d0a16_12 rfl (lv_at hl 2 rfl) ?_
      refine lv_iload_n hx hb dJ7_fill_d0a16_13 rfl (lv_at hl 1 rfl) ?_
      refine lv_lload_n hx hb dJ7_fill_d0a16_14 rfl (lv_at hl 3 rfl) ?_
      refine va_last hx hb hK hP hD hS 0 2 rfl rfl (vp_in_nI (by omega) hn) dJ7_fill_d0a16_15 (fun H locs hP hD hS => ?_)
      have hP : va_P D vwCl [(h, .inl (k 2, n, .inr (.inl (vp_updL g (nI i : Int32).toNatClampNeg v))))] H := hP
      have hD : va_D A [(h, .inl (k 2, n, .inr (.inl (vp_updL g (nI i : Int32).toNatClampNeg v))))] := hD
      refine lv_iinc (v := nI (i + 1)) (lv' := [(3, .int (nI (i + 1))), (4, .int (nI n)), (0, .ref h), (1, .long v)]) hx hb dJ7_fill_d0a16_16 hl (k := 1) rfl (nI_1 i) (by decide) rfl (fun ls hl => ?_)
      refine lv_goto (tgt := 6) hx hb dJ7_fill_d0a16_19 (by decide) ?_
      exact ih (i + 1) _ _ _ _ (by omega)  (hP.sub [0] rfl) (hD.sub [0] rfl rfl) hS (lv_sub hl [1, 0, 2, 3] rfl)
  exact HL n 0 _ _ _ _ (by omega)  (hP.sub [0] rfl) (hD.sub [0] rfl rfl) hS (lv_sub hl [0, 1, 2, 3] rfl)
set_option maxHeartbeats 4000000 in
set_option maxRecDepth 100000 in
theorem c_fillI (l : Launch) (D : va_G) (k : Nat → ClassId) (h n : Nat) (f : Nat → Int32) (v : Int32) (hn : n < 2 ^ 31) : WD (σ := (Nat → Int32)) l yJ7_fill_53178 cJ7_fill_53178 4 none 0 0 0 D k [.ref h, .int v] [(h, .inl (k 1, n, .inl f))] (fun _ => none) (fun _ => True) (fun g => [(h, .inl (k 1, n, .inl g))]) := by
  refine MW (by decide) (Nat.le_of_ble_eq_true rfl) (fun p e s m below meth c ls A hx hb hml hr hlocks hin hts hown hKK hP hD hS hA hl => ?_)
  have hK := hKK.1
  have hl : lv_has ls 4 [(0, .ref h), (1, .int v)] := hl
  refine lv_iconst (v := 0) hx hb dJ7_fill_53178_0 (by decide) ?_
  refine lv_istore_n (lv' := [(2, .int 0), (0, .ref h), (1, .int v)]) hx hb dJ7_fill_53178_1 rfl hl (by decide) rfl (fun ls hl => ?_)
  refine lv_aload_n hx hb dJ7_fill_53178_2 rfl (lv_at hl 1 rfl) ?_
  refine va_alen (v := (nI n)) hx hb hK hP 0 1 rfl (ty := .int) rfl rfl dJ7_fill_53178_3 ?_
  refine lv_istore_n (lv' := [(3, .int (nI n)), (2, .int 0), (0, .ref h), (1, .int v)]) hx hb dJ7_fill_53178_4 rfl hl (by decide) rfl (fun ls hl => ?_)
  have HL : ∀ (r i : Nat) (g : Nat → Int32) (H : Heap) (locs : List Loc) (ls : Array Slot), i + r = n → va_P D vwCl [(h, .inl (k 1, n, .inl g))] H → va_D A [(h, .inl (k 1, n, .inl g))] → va_S A s.heap H locs → lv_has ls 4 [(3, .int (nI n)), (2, .int (nI i)), (0, .ref h), (1, .int v)] → W p l e (rj 0 0 0) s m [.ref h, .int v].toArray below meth c H locs 0 0 (MQ below (QW (σ := (Nat → Int32)) (fun _ => none) (fun _ => True) (fun g => [(h, .inl (k 1, n, .inl g))]) D A) [.ref h, .int v].toArray s 0 0 A) (F0 m 5 ls []) := by
    intro r
    induction r with
    | zero =>
      intro i g H locs ls hi  hP hD hS hl
      refine lv_iload_n hx hb dJ7_fill_53178_5 rfl (lv_at hl 1 rfl) ?_
      refine lv_iload_n hx hb dJ7_fill_53178_6 rfl (lv_at hl 0 rfl) ?_
      refine lv_icmp_ge (tgt := 20) hx hb dJ7_fill_53178_7 (by decide) (fun _ => ?_) (fun c => absurd (nI_le (a := n) (b := i) (by omega) (by omega)) c)
      exact EWv hx hb hr hlocks hS g rfl trivial hP hD dJ7_fill_53178_20
    | succ r ih =>
      intro i g H locs ls hi  hP hD hS hl
      refine lv_iload_n hx hb dJ7_fill_53178_5 rfl (lv_at hl 1 rfl) ?_
      refine lv_iload_n hx hb dJ7_fill_53178_6 rfl (lv_at hl 0 rfl) ?_
      refine lv_icmp_ge (tgt := 20) hx hb dJ7_fill_53178_7 (by decide) (fun c => absurd c (nI_ge (a := i) (b := n) (by omega) (by omega))) (fun _ => ?_)
      refine lv_aload_n hx hb dJ7_fill_53178_10 rfl (lv_at hl 2 rfl) ?_
      refine lv_iload_n hx hb dJ7_fill_53178_11 rfl (lv_at hl 1 rfl) ?_
      refine lv_iload_n hx hb dJ7_fill_53178_12 rfl (lv_at hl 3 rfl) ?_
      refine va_iast hx hb hK hP hD hS 0 1 rfl rfl (vp_in_nI (by omega) hn) dJ7_fill_53178_13 (fun H locs hP hD hS => ?_)
      have hP : va_P D vwCl [(h, .inl (k 1, n, .inl (upd g (nI i : Int32).toNatClampNeg v)))] H := hP
      have hD : va_D A [(h, .inl (k 1, n, .inl (upd g (nI i : Int32).toNatClampNeg v)))] := hD
      refine lv_iinc (v := nI (i + 1)) (lv' := [(2, .int (nI (i + 1))), (3, .int (nI n)), (0, .ref h), (1, .int v)]) hx hb dJ7_fill_53178_14 hl (k := 1) rfl (nI_1 i) (by decide) rfl (fun ls hl => ?_)
      refine lv_goto (tgt := 5) hx hb dJ7_fill_53178_17 (by decide) ?_
      exact ih (i + 1) _ _ _ _ (by omega)  (hP.sub [0] rfl) (hD.sub [0] rfl rfl) hS (lv_sub hl [1, 0, 2, 3] rfl)
  exact HL n 0 _ _ _ _ (by omega)  (hP.sub [0] rfl) (hD.sub [0] rfl rfl) hS (lv_sub hl [0, 1, 2, 3] rfl)
set_option maxHeartbeats 4000000 in
set_option maxRecDepth 100000 in
theorem c_renew (l : Launch) (D : va_G) (k : Nat → ClassId) (h hn : Nat) (a b : Int32) (f : Nat → Int64) (x y : Int32) : WD (σ := Unit) l yX7_renew cX7_renew 3 none 1 0 0 D k [.ref h, .int x, .int y] [(h, .inr (7, [.ref hn, .int a, .int b])), (hn, .inl (k 2, 60, .inr (.inl f)))] (fun _ => none) (fun _ => True) (fun _ => []) := by
  refine MW (by decide) (Nat.le_of_ble_eq_true rfl) (fun p e s m below meth c ls A hx hb hml hr hlocks hin hts hown hKK hP hD hS hA hl => ?_)
  have hK := hKK.1
  have hl : lv_has ls 3 [(0, .ref h), (1, .int x), (2, .int y)] := hl
  refine lv_aload_n hx hb dX7_renew_0 rfl (lv_at hl 0 rfl) ?_
  refine lv_iload_n hx hb dX7_renew_1 rfl (lv_at hl 1 rfl) ?_
  refine va_put (D := D) (ci := 7) (v := .int x) (ty := .int) (C := RX7) (T := TX7) (N := 3) hx hb hts iX7 tyX7 tyX7_ok nmX7 hown hK hP hD hS 0 rfl rfl 1 (by decide) (hts _ qf_X7_19) (fun _ h => h) rfl (by decide +kernel) rfl rfl (Nat.le_of_ble_eq_true rfl) dX7_renew_2 (fun H locs hP hD hS => ?_)
  have hP : va_P D vwCl [(h, .inr (7, [.ref hn, .int x, .int b])), (hn, .inl (k 2, 60, .inr (.inl f)))] H := hP
  have hD : va_D A [(h, .inr (7, [.ref hn, .int x, .int b])), (hn, .inl (k 2, 60, .inr (.inl f)))] := hD
  refine lv_aload_n hx hb dX7_renew_5 rfl (lv_at hl 0 rfl) ?_
  refine lv_iload_n hx hb dX7_renew_6 rfl (lv_at hl 2 rfl) ?_
  refine va_put (D := D) (ci := 7) (v := .int y) (ty := .int) (C := RX7) (T := TX7) (N := 3) hx hb hts iX7 tyX7 tyX7_ok nmX7 hown hK hP hD hS 0 rfl rfl 2 (by decide) (hts _ qf_X7_15) (fun _ h => h) rfl (by decide +kernel) rfl rfl (Nat.le_of_ble_eq_true rfl) dX7_renew_7 (fun H locs hP hD hS => ?_)
  have hP : va_P D vwCl [(h, .inr (7, [.ref hn, .int x, .int y])), (hn, .inl (k 2, 60, .inr (.inl f)))] H := hP
  have hD : va_D A [(h, .inr (7, [.ref hn, .int x, .int y])), (hn, .inl (k 2, 60, .inr (.inl f)))] := hD
  refine lv_aload_n hx hb dX7_renew_10 rfl (lv_at hl 0 rfl) ?_
  refine va_get (D := D) (ci := 7) (v := .ref hn) (C := RX7) (T := TX7) (N := 3) hx hb hts iX7 hown hK hP 0 rfl rfl 0 (by decide) (hts _ qf_X7_9) (fun _ h => h) rfl dX7_renew_11 ?_
  refine lv_lconst (v := 0) hx hb dX7_renew_14 rfl ?_
  refine CWS (As := [.ref hn, .long 0]) (rest := []) (wc := [(hn, .inl (k 2, 60, .inr (.inl f)))]) (wr := [(h, .inr (7, [.ref hn, .int x, .int y]))]) hx hb hml hown hts hKK hP hD hS hA (c_fillJ l D k hn 60 f 0 (by decide)) ci_J7_fill_d0a16 qm_X7_22 ⟨Nat.le_of_ble_eq_true rfl, Nat.le_of_ble_eq_true rfl⟩ ⟨Nat.le_of_ble_eq_true rfl, Nat.le_of_ble_eq_true rfl⟩ [1] [0] rfl rfl rfl rfl rfl (by decide) rfl hl.1 rfl (Nat.le_of_ble_eq_true rfl) dX7_renew_15 (fun u_1 H locs hφ hP hD hS => ?_)
  have hP : va_P D vwCl [(h, .inr (7, [.ref hn, .int x, .int y])), (hn, .inl (k 2, 60, .inr (.inl u_1)))] H := hP
  have hD : va_D A [(h, .inr (7, [.ref hn, .int x, .int y])), (hn, .inl (k 2, 60, .inr (.inl u_1)))] := hD
  refine W.eq (g2 := F0 m 18 ls []) rfl ?_
  exact EWv hx hb hr hlocks hS () rfl trivial nil_P nil_D dX7_renew_18
set_option maxHeartbeats 4000000 in
set_option maxRecDepth 100000 in
theorem c_isMissing (l : Launch) (D : va_G) (k : Nat → ClassId) (h : Nat) (fs : List Value) (f2 : fs[2]? = some (.int (-1))) : RD l yX7_isMissing cX7_isMissing 1 (some .boolean) 0 D k [.ref h] [(h, .inr (7, fs))] 1 := by
  refine MR (by decide) (Nat.le_of_ble_eq_true rfl) (fun p e s m below meth c ls hx hb hml hr hlocks hts hown hKK hP hl => ?_)
  have hK := hKK.1
  have hl : lv_has ls 1 [(0, .ref h)] := hl
  refine lv_aload_n hx hb dX7_isMissing_0 rfl (lv_at hl 0 rfl) ?_
  refine va_get (D := D) (ci := 7) (v := .int (-1)) (C := RX7) (T := TX7) (N := 3) hx hb hts iX7 hown hK hP 0 rfl rfl 2 (by decide) (hts _ qf_X7_15) (fun _ h => h) f2 dX7_isMissing_1 ?_
  refine lv_iconst (v := (-1)) hx hb dX7_isMissing_4 (by decide) ?_
  refine lv_icmp_ne (tgt := 12) hx hb dX7_isMissing_5 (by decide) (fun c => absurd (by decide) c) (fun _ => ?_)
  refine lv_iconst (v := 1) hx hb dX7_isMissing_8 (by decide) ?_
  refine lv_goto (tgt := 13) hx hb dX7_isMissing_9 (by decide) ?_
  exact ERz hx hb hr hlocks rfl rfl dX7_isMissing_13
set_option maxHeartbeats 4000000 in
set_option maxRecDepth 100000 in
theorem c_wrongInPlace (l : Launch) (D : va_G) (k : Nat → ClassId) (q : Nat → Nat) (a b : Int32) : RD l yX11_wrongInPlace cX11_wrongInPlace 3 (some .int) 2 D k [.ref (q 0), .int a, .int b] [((q 0), .inr (11, [.ref (q 1), .ref (q 2), .ref (q 3), .ref (q 4), .ref (q 5), .ref (q 6), .ref (q 7), .ref (q 8), .ref (q 9), .ref (q 10), .ref (q 11), .int 0, .int 0, .int 0, .long 0, .long 1])), ((q 1), .inl (k 3, 4, .inr (.inr (.inr (.inr (fun i => some (q (120 + i)))))))), ((q 120), .inr (7, [.ref (q 124), .int 0, .int (-1)])), ((q 121), .inr (7, [.ref (q 125), .int 0, .int (-1)])), ((q 122), .inr (7, [.ref (q 126), .int 0, .int (-1)])), ((q 123), .inr (7, [.ref (q 127), .int 0, .int (-1)]))] (wip a) := by
  refine MR (by decide) (Nat.le_of_ble_eq_true rfl) (fun p e s m below meth c ls hx hb hml hr hlocks hts hown hKK hP hl => ?_)
  have hK := hKK.1
  have hl : lv_has ls 3 [(0, .ref (q 0)), (1, .int a), (2, .int b)] := hl
  refine lv_iload_n hx hb dX11_wrongInPlace_0 rfl (lv_at hl 1 rfl) ?_
  refine CRS (As := [.int a]) (rest := []) hx hb hml hown hts hKK (hP.sub (ws' := []) [] rfl) (c_isTray l D k a) ci_X11_isTray qm_X11_99 ⟨Nat.le_of_ble_eq_true rfl, Nat.le_of_ble_eq_true rfl⟩ ⟨Nat.le_of_ble_eq_true rfl, Nat.le_of_ble_eq_true rfl⟩ rfl hl.1 rfl (Nat.le_of_ble_eq_true rfl) dX11_wrongInPlace_1 ?_
  refine lv_if_ne (tgt := 9) hx hb dX11_wrongInPlace_4 (by decide) (fun c_1 => ?_) (fun c_1 => ?_)
  ·
    obtain rfl | rfl | rfl | rfl := bw4 c_1
    ·
      refine lv_aload_n hx hb dX11_wrongInPlace_9 rfl (lv_at hl 0 rfl) ?_
      refine va_get (D := D) (ci := 11) (v := .ref (q 1)) (C := RX11) (T := TX11) (N := 16) hx hb hts iX11 hown hK hP 0 rfl rfl 0 (by decide) (hts _ qf_X11_11) (fun _ h => h) rfl dX11_wrongInPlace_10 ?_
      refine lv_iload_n hx hb dX11_wrongInPlace_13 rfl (lv_at hl 1 rfl) ?_
      refine va_aldq hx hb hK hP 1 3 rfl rfl (xin 0 4 rfl (by decide) (by decide)) dX11_wrongInPlace_14 ?_
      refine W.eq (g2 := F0 m 15 ls [.ref (q 120)]) rfl ?_
      refine CRV (As := []) (rest := []) hx hb hml hown hts hKK (hP.sub (ws' := [((q 120), .inr (7, [.ref (q 124), .int 0, .int (-1)]))]) [2] rfl) (c_isMissing l D k (q 120) [.ref (q 124), .int 0, .int (-1)] rfl) ci_X7_isMissing qm_X11_134 ⟨Nat.le_of_ble_eq_true rfl, Nat.le_of_ble_eq_true rfl⟩ ⟨Nat.le_of_ble_eq_true rfl, Nat.le_of_ble_eq_true rfl⟩ 0 rfl rfl rfl hl.1 rfl (Nat.le_of_ble_eq_true rfl) dX11_wrongInPlace_15 ?_
      refine lv_if_eq (tgt := 23) hx hb dX11_wrongInPlace_18 (by decide) (fun c => absurd c (by decide)) (fun _ => ?_)
      refine lv_iconst (v := 2) hx hb dX11_wrongInPlace_21 (by decide) ?_
      exact ERi hx hb hr hlocks (by simp [wip, c_1]) dX11_wrongInPlace_22
    ·
      refine lv_aload_n hx hb dX11_wrongInPlace_9 rfl (lv_at hl 0 rfl) ?_
      refine va_get (D := D) (ci := 11) (v := .ref (q 1)) (C := RX11) (T := TX11) (N := 16) hx hb hts iX11 hown hK hP 0 rfl rfl 0 (by decide) (hts _ qf_X11_11) (fun _ h => h) rfl dX11_wrongInPlace_10 ?_
      refine lv_iload_n hx hb dX11_wrongInPlace_13 rfl (lv_at hl 1 rfl) ?_
      refine va_aldq hx hb hK hP 1 3 rfl rfl (xin 1 4 rfl (by decide) (by decide)) dX11_wrongInPlace_14 ?_
      refine W.eq (g2 := F0 m 15 ls [.ref (q 121)]) rfl ?_
      refine CRV (As := []) (rest := []) hx hb hml hown hts hKK (hP.sub (ws' := [((q 121), .inr (7, [.ref (q 125), .int 0, .int (-1)]))]) [3] rfl) (c_isMissing l D k (q 121) [.ref (q 125), .int 0, .int (-1)] rfl) ci_X7_isMissing qm_X11_134 ⟨Nat.le_of_ble_eq_true rfl, Nat.le_of_ble_eq_true rfl⟩ ⟨Nat.le_of_ble_eq_true rfl, Nat.le_of_ble_eq_true rfl⟩ 0 rfl rfl rfl hl.1 rfl (Nat.le_of_ble_eq_true rfl) dX11_wrongInPlace_15 ?_
      refine lv_if_eq (tgt := 23) hx hb dX11_wrongInPlace_18 (by decide) (fun c => absurd c (by decide)) (fun _ => ?_)
      refine lv_iconst (v := 2) hx hb dX11_wrongInPlace_21 (by decide) ?_
      exact ERi hx hb hr hlocks (by simp [wip, c_1]) dX11_wrongInPlace_22
    ·
      refine lv_aload_n hx hb dX11_wrongInPlace_9 rfl (lv_at hl 0 rfl) ?_
      refine va_get (D := D) (ci := 11) (v := .ref (q 1)) (C := RX11) (T := TX11) (N := 16) hx hb hts iX11 hown hK hP 0 rfl rfl 0 (by decide) (hts _ qf_X11_11) (fun _ h => h) rfl dX11_wrongInPlace_10 ?_
      refine lv_iload_n hx hb dX11_wrongInPlace_13 rfl (lv_at hl 1 rfl) ?_
      refine va_aldq hx hb hK hP 1 3 rfl rfl (xin 2 4 rfl (by decide) (by decide)) dX11_wrongInPlace_14 ?_
      refine W.eq (g2 := F0 m 15 ls [.ref (q 122)]) rfl ?_
      refine CRV (As := []) (rest := []) hx hb hml hown hts hKK (hP.sub (ws' := [((q 122), .inr (7, [.ref (q 126), .int 0, .int (-1)]))]) [4] rfl) (c_isMissing l D k (q 122) [.ref (q 126), .int 0, .int (-1)] rfl) ci_X7_isMissing qm_X11_134 ⟨Nat.le_of_ble_eq_true rfl, Nat.le_of_ble_eq_true rfl⟩ ⟨Nat.le_of_ble_eq_true rfl, Nat.le_of_ble_eq_true rfl⟩ 0 rfl rfl rfl hl.1 rfl (Nat.le_of_ble_eq_true rfl) dX11_wrongInPlace_15 ?_
      refine lv_if_eq (tgt := 23) hx hb dX11_wrongInPlace_18 (by decide) (fun c => absurd c (by decide)) (fun _ => ?_)
      refine lv_iconst (v := 2) hx hb dX11_wrongInPlace_21 (by decide) ?_
      exact ERi hx hb hr hlocks (by simp [wip, c_1]) dX11_wrongInPlace_22
    ·
      refine lv_aload_n hx hb dX11_wrongInPlace_9 rfl (lv_at hl 0 rfl) ?_
      refine va_get (D := D) (ci := 11) (v := .ref (q 1)) (C := RX11) (T := TX11) (N := 16) hx hb hts iX11 hown hK hP 0 rfl rfl 0 (by decide) (hts _ qf_X11_11) (fun _ h => h) rfl dX11_wrongInPlace_10 ?_
      refine lv_iload_n hx hb dX11_wrongInPlace_13 rfl (lv_at hl 1 rfl) ?_
      refine va_aldq hx hb hK hP 1 3 rfl rfl (xin 3 4 rfl (by decide) (by decide)) dX11_wrongInPlace_14 ?_
      refine W.eq (g2 := F0 m 15 ls [.ref (q 123)]) rfl ?_
      refine CRV (As := []) (rest := []) hx hb hml hown hts hKK (hP.sub (ws' := [((q 123), .inr (7, [.ref (q 127), .int 0, .int (-1)]))]) [5] rfl) (c_isMissing l D k (q 123) [.ref (q 127), .int 0, .int (-1)] rfl) ci_X7_isMissing qm_X11_134 ⟨Nat.le_of_ble_eq_true rfl, Nat.le_of_ble_eq_true rfl⟩ ⟨Nat.le_of_ble_eq_true rfl, Nat.le_of_ble_eq_true rfl⟩ 0 rfl rfl rfl hl.1 rfl (Nat.le_of_ble_eq_true rfl) dX11_wrongInPlace_15 ?_
      refine lv_if_eq (tgt := 23) hx hb dX11_wrongInPlace_18 (by decide) (fun c => absurd c (by decide)) (fun _ => ?_)
      refine lv_iconst (v := 2) hx hb dX11_wrongInPlace_21 (by decide) ?_
      exact ERi hx hb hr hlocks (by simp [wip, c_1]) dX11_wrongInPlace_22
  ·
    refine lv_iconst (v := 1) hx hb dX11_wrongInPlace_7 (by decide) ?_
    exact ERi hx hb hr hlocks (by simp [wip, c_1]) dX11_wrongInPlace_8
set_option maxHeartbeats 4000000 in
set_option maxRecDepth 100000 in
theorem p_write (l : Launch) (D : va_G) (k : Nat → ClassId) (q : Nat → Nat) (a : Int32) (b : Int32) (c1 : Int64) : WD (σ := Unit) l yX11_write cX11_write 6 (some .boolean) 8 0 0 D k [.ref (q 0), .int a, .int b, .long c1] [((q 0), .inr (11, [.ref (q 1), .ref (q 2), .ref (q 3), .ref (q 4), .ref (q 5), .ref (q 6), .ref (q 7), .ref (q 8), .ref (q 9), .ref (q 10), .ref (q 11), .int 0, .int 0, .int 0, .long 0, .long 1])), ((q 1), .inl (k 3, 4, .inr (.inr (.inr (.inr (fun i => some (q (120 + i)))))))), ((q 120), .inr (7, [.ref (q 124), .int 0, .int (-1)])), ((q 121), .inr (7, [.ref (q 125), .int 0, .int (-1)])), ((q 122), .inr (7, [.ref (q 126), .int 0, .int (-1)])), ((q 123), .inr (7, [.ref (q 127), .int 0, .int (-1)]))] (fun _ => some (.int 0)) (fun _ => True) (fun _ => []) := by
  refine MW (by decide) (Nat.le_of_ble_eq_true rfl) (fun p e s m below meth c ls A hx hb hml hr hlocks hin hts hown hKK hP hD hS hA hl => ?_)
  have hK := hKK.1
  have hl : lv_has ls 6 [(0, .ref (q 0)), (1, .int a), (2, .int b), (3, .long c1)] := hl
  refine lv_aload_n hx hb dX11_write_0 rfl (lv_at hl 0 rfl) ?_
  refine lv_iload_n hx hb dX11_write_1 rfl (lv_at hl 1 rfl) ?_
  refine lv_iload_n hx hb dX11_write_2 rfl (lv_at hl 2 rfl) ?_
  refine CRV (As := [.int a, .int b]) (rest := []) hx hb hml hown hts hKK hP (c_wrongInPlace l D k q a b) ci_X11_wrongInPlace qm_X11_118 ⟨Nat.le_of_ble_eq_true rfl, Nat.le_of_ble_eq_true rfl⟩ ⟨Nat.le_of_ble_eq_true rfl, Nat.le_of_ble_eq_true rfl⟩ 0 rfl rfl rfl hl.1 rfl (Nat.le_of_ble_eq_true rfl) dX11_write_3 ?_
  refine lv_istore (lv' := [(5, .int (wip a)), (0, .ref (q 0)), (1, .int a), (2, .int b), (3, .long c1)]) hx hb dX11_write_6 hl (by decide) rfl (fun ls hl => ?_)
  refine lv_iload hx hb dX11_write_8 (lv_at hl 0 rfl) ?_
  refine lv_if_eq (tgt := 20) hx hb dX11_write_10 (by decide) (fun c => absurd c (wip_ne a)) (fun _ => ?_)
  refine lv_aload_n hx hb dX11_write_13 rfl (lv_at hl 1 rfl) ?_
  refine lv_iload hx hb dX11_write_14 (lv_at hl 0 rfl) ?_
  refine CWV (As := [.int (wip a)]) (rest := []) (wc := [((q 0), .inr (11, [.ref (q 1), .ref (q 2), .ref (q 3), .ref (q 4), .ref (q 5), .ref (q 6), .ref (q 7), .ref (q 8), .ref (q 9), .ref (q 10), .ref (q 11), .int 0, .int 0, .int 0, .long 0, .long 1]))]) (wr := [((q 1), .inl (k 3, 4, .inr (.inr (.inr (.inr (fun i => some (q (120 + i)))))))), ((q 120), .inr (7, [.ref (q 124), .int 0, .int (-1)])), ((q 121), .inr (7, [.ref (q 125), .int 0, .int (-1)])), ((q 122), .inr (7, [.ref (q 126), .int 0, .int (-1)])), ((q 123), .inr (7, [.ref (q 127), .int 0, .int (-1)]))]) hx hb hml hown hts hKK hP hD hS hA (c_deny l D k (q 0) [.ref (q 1), .ref (q 2), .ref (q 3), .ref (q 4), .ref (q 5), .ref (q 6), .ref (q 7), .ref (q 8), .ref (q 9), .ref (q 10), .ref (q 11), .int 0, .int 0, .int 0, .long 0, .long 1] (Nat.le_of_ble_eq_true rfl) (wip a)) ci_X11_deny qm_X11_107 ⟨Nat.le_of_ble_eq_true rfl, Nat.le_of_ble_eq_true rfl⟩ ⟨Nat.le_of_ble_eq_true rfl, Nat.le_of_ble_eq_true rfl⟩ [0] [1, 2, 3, 4, 5] rfl rfl rfl rfl rfl (by decide) 0 rfl rfl rfl hl.1 rfl (Nat.le_of_ble_eq_true rfl) dX11_write_16 (fun u_1 H locs hφ hP hD hS => ?_)
  have hP : va_P D vwCl [((q 1), .inl (k 3, 4, .inr (.inr (.inr (.inr (fun i => some (q (120 + i)))))))), ((q 120), .inr (7, [.ref (q 124), .int 0, .int (-1)])), ((q 121), .inr (7, [.ref (q 125), .int 0, .int (-1)])), ((q 122), .inr (7, [.ref (q 126), .int 0, .int (-1)])), ((q 123), .inr (7, [.ref (q 127), .int 0, .int (-1)]))] H := hP
  have hD : va_D A [((q 1), .inl (k 3, 4, .inr (.inr (.inr (.inr (fun i => some (q (120 + i)))))))), ((q 120), .inr (7, [.ref (q 124), .int 0, .int (-1)])), ((q 121), .inr (7, [.ref (q 125), .int 0, .int (-1)])), ((q 122), .inr (7, [.ref (q 126), .int 0, .int (-1)])), ((q 123), .inr (7, [.ref (q 127), .int 0, .int (-1)]))] := hD
  refine W.eq (g2 := F0 m 19 ls [.int 0]) rfl ?_
  exact EWz hx hb hr hlocks hS () rfl rfl trivial nil_P nil_D dX11_write_19
set_option maxHeartbeats 4000000 in
set_option maxRecDepth 100000 in
theorem p_tray (l : Launch) (D : va_G) (k : Nat → ClassId) (q : Nat → Nat) (a : Int32) (b : Int32) (c1 : Int32) : WD (σ := Unit) l yX11_tray cX11_tray 4 (some .boolean) 8 0 0 D k [.ref (q 0), .int a, .int b, .int c1] [((q 0), .inr (11, [.ref (q 1), .ref (q 2), .ref (q 3), .ref (q 4), .ref (q 5), .ref (q 6), .ref (q 7), .ref (q 8), .ref (q 9), .ref (q 10), .ref (q 11), .int 0, .int 0, .int 0, .long 0, .long 1])), ((q 1), .inl (k 3, 4, .inr (.inr (.inr (.inr (fun i => some (q (120 + i)))))))), ((q 120), .inr (7, [.ref (q 124), .int 0, .int (-1)])), ((q 121), .inr (7, [.ref (q 125), .int 0, .int (-1)])), ((q 122), .inr (7, [.ref (q 126), .int 0, .int (-1)])), ((q 123), .inr (7, [.ref (q 127), .int 0, .int (-1)])), ((q 124), .inl (k 2, 60, .inr (.inl (fun _ => 0)))), ((q 125), .inl (k 2, 60, .inr (.inl (fun _ => 0)))), ((q 126), .inl (k 2, 60, .inr (.inl (fun _ => 0)))), ((q 127), .inl (k 2, 60, .inr (.inl (fun _ => 0))))] (fun _ => some (.int (trA a b c1))) (fun _ => True) (fun _ => []) := by
  refine MW (by decide) (Nat.le_of_ble_eq_true rfl) (fun p e s m below meth c ls A hx hb hml hr hlocks hin hts hown hKK hP hD hS hA hl => ?_)
  have hK := hKK.1
  have hl : lv_has ls 4 [(0, .ref (q 0)), (1, .int a), (2, .int b), (3, .int c1)] := hl
  refine lv_iload_n hx hb dX11_tray_0 rfl (lv_at hl 1 rfl) ?_
  refine CRS (As := [.int a]) (rest := []) hx hb hml hown hts hKK (hP.sub (ws' := []) [] rfl) (c_isTray l D k a) ci_X11_isTray qm_X11_99 ⟨Nat.le_of_ble_eq_true rfl, Nat.le_of_ble_eq_true rfl⟩ ⟨Nat.le_of_ble_eq_true rfl, Nat.le_of_ble_eq_true rfl⟩ rfl hl.1 rfl (Nat.le_of_ble_eq_true rfl) dX11_tray_1 ?_
  refine lv_if_eq (tgt := 24) hx hb dX11_tray_4 (by decide) (fun c_1 => ?_) (fun c_1 => ?_)
  ·
    refine lv_aload_n hx hb dX11_tray_24 rfl (lv_at hl 0 rfl) ?_
    refine lv_iconst (v := 1) hx hb dX11_tray_25 (by decide) ?_
    refine CWV (As := [.int 1]) (rest := []) (wc := [((q 0), .inr (11, [.ref (q 1), .ref (q 2), .ref (q 3), .ref (q 4), .ref (q 5), .ref (q 6), .ref (q 7), .ref (q 8), .ref (q 9), .ref (q 10), .ref (q 11), .int 0, .int 0, .int 0, .long 0, .long 1]))]) (wr := [((q 1), .inl (k 3, 4, .inr (.inr (.inr (.inr (fun i => some (q (120 + i)))))))), ((q 120), .inr (7, [.ref (q 124), .int 0, .int (-1)])), ((q 121), .inr (7, [.ref (q 125), .int 0, .int (-1)])), ((q 122), .inr (7, [.ref (q 126), .int 0, .int (-1)])), ((q 123), .inr (7, [.ref (q 127), .int 0, .int (-1)])), ((q 124), .inl (k 2, 60, .inr (.inl (fun _ => 0)))), ((q 125), .inl (k 2, 60, .inr (.inl (fun _ => 0)))), ((q 126), .inl (k 2, 60, .inr (.inl (fun _ => 0)))), ((q 127), .inl (k 2, 60, .inr (.inl (fun _ => 0))))]) hx hb hml hown hts hKK hP hD hS hA (c_deny l D k (q 0) [.ref (q 1), .ref (q 2), .ref (q 3), .ref (q 4), .ref (q 5), .ref (q 6), .ref (q 7), .ref (q 8), .ref (q 9), .ref (q 10), .ref (q 11), .int 0, .int 0, .int 0, .long 0, .long 1] (Nat.le_of_ble_eq_true rfl) 1) ci_X11_deny qm_X11_107 ⟨Nat.le_of_ble_eq_true rfl, Nat.le_of_ble_eq_true rfl⟩ ⟨Nat.le_of_ble_eq_true rfl, Nat.le_of_ble_eq_true rfl⟩ [0] [1, 2, 3, 4, 5, 6, 7, 8, 9] rfl rfl rfl rfl rfl (by decide) 0 rfl rfl rfl hl.1 rfl (Nat.le_of_ble_eq_true rfl) dX11_tray_26 (fun u_2 H locs hφ hP hD hS => ?_)
    have hP : va_P D vwCl [((q 1), .inl (k 3, 4, .inr (.inr (.inr (.inr (fun i => some (q (120 + i)))))))), ((q 120), .inr (7, [.ref (q 124), .int 0, .int (-1)])), ((q 121), .inr (7, [.ref (q 125), .int 0, .int (-1)])), ((q 122), .inr (7, [.ref (q 126), .int 0, .int (-1)])), ((q 123), .inr (7, [.ref (q 127), .int 0, .int (-1)])), ((q 124), .inl (k 2, 60, .inr (.inl (fun _ => 0)))), ((q 125), .inl (k 2, 60, .inr (.inl (fun _ => 0)))), ((q 126), .inl (k 2, 60, .inr (.inl (fun _ => 0)))), ((q 127), .inl (k 2, 60, .inr (.inl (fun _ => 0))))] H := hP
    have hD : va_D A [((q 1), .inl (k 3, 4, .inr (.inr (.inr (.inr (fun i => some (q (120 + i)))))))), ((q 120), .inr (7, [.ref (q 124), .int 0, .int (-1)])), ((q 121), .inr (7, [.ref (q 125), .int 0, .int (-1)])), ((q 122), .inr (7, [.ref (q 126), .int 0, .int (-1)])), ((q 123), .inr (7, [.ref (q 127), .int 0, .int (-1)])), ((q 124), .inl (k 2, 60, .inr (.inl (fun _ => 0)))), ((q 125), .inl (k 2, 60, .inr (.inl (fun _ => 0)))), ((q 126), .inl (k 2, 60, .inr (.inl (fun _ => 0)))), ((q 127), .inl (k 2, 60, .inr (.inl (fun _ => 0))))] := hD
    refine W.eq (g2 := F0 m 29 ls [.int 0]) rfl ?_
    exact EWz hx hb hr hlocks hS () (by simp [trA, c_1]) rfl trivial nil_P nil_D dX11_tray_29
  ·
    obtain rfl | rfl | rfl | rfl := bw4 c_1
    ·
      refine lv_iload_n hx hb dX11_tray_7 rfl (lv_at hl 2 rfl) ?_
      refine lv_iconst (v := 3) hx hb dX11_tray_8 (by decide) ?_
      refine CRS (As := [.int b, .int 3]) (rest := []) hx hb hml hown hts hKK (hP.sub (ws' := []) [] rfl) (c_isWithin l D k b 3) ci_X11_isWithin qm_X11_103 ⟨Nat.le_of_ble_eq_true rfl, Nat.le_of_ble_eq_true rfl⟩ ⟨Nat.le_of_ble_eq_true rfl, Nat.le_of_ble_eq_true rfl⟩ rfl hl.1 rfl (Nat.le_of_ble_eq_true rfl) dX11_tray_9 ?_
      refine lv_if_eq (tgt := 24) hx hb dX11_tray_12 (by decide) (fun c_3 => ?_) (fun c_3 => ?_)
      ·
        refine lv_aload_n hx hb dX11_tray_24 rfl (lv_at hl 0 rfl) ?_
        refine lv_iconst (v := 1) hx hb dX11_tray_25 (by decide) ?_
        refine CWV (As := [.int 1]) (rest := []) (wc := [((q 0), .inr (11, [.ref (q 1), .ref (q 2), .ref (q 3), .ref (q 4), .ref (q 5), .ref (q 6), .ref (q 7), .ref (q 8), .ref (q 9), .ref (q 10), .ref (q 11), .int 0, .int 0, .int 0, .long 0, .long 1]))]) (wr := [((q 1), .inl (k 3, 4, .inr (.inr (.inr (.inr (fun i => some (q (120 + i)))))))), ((q 120), .inr (7, [.ref (q 124), .int 0, .int (-1)])), ((q 121), .inr (7, [.ref (q 125), .int 0, .int (-1)])), ((q 122), .inr (7, [.ref (q 126), .int 0, .int (-1)])), ((q 123), .inr (7, [.ref (q 127), .int 0, .int (-1)])), ((q 124), .inl (k 2, 60, .inr (.inl (fun _ => 0)))), ((q 125), .inl (k 2, 60, .inr (.inl (fun _ => 0)))), ((q 126), .inl (k 2, 60, .inr (.inl (fun _ => 0)))), ((q 127), .inl (k 2, 60, .inr (.inl (fun _ => 0))))]) hx hb hml hown hts hKK hP hD hS hA (c_deny l D k (q 0) [.ref (q 1), .ref (q 2), .ref (q 3), .ref (q 4), .ref (q 5), .ref (q 6), .ref (q 7), .ref (q 8), .ref (q 9), .ref (q 10), .ref (q 11), .int 0, .int 0, .int 0, .long 0, .long 1] (Nat.le_of_ble_eq_true rfl) 1) ci_X11_deny qm_X11_107 ⟨Nat.le_of_ble_eq_true rfl, Nat.le_of_ble_eq_true rfl⟩ ⟨Nat.le_of_ble_eq_true rfl, Nat.le_of_ble_eq_true rfl⟩ [0] [1, 2, 3, 4, 5, 6, 7, 8, 9] rfl rfl rfl rfl rfl (by decide) 0 rfl rfl rfl hl.1 rfl (Nat.le_of_ble_eq_true rfl) dX11_tray_26 (fun u_4 H locs hφ hP hD hS => ?_)
        have hP : va_P D vwCl [((q 1), .inl (k 3, 4, .inr (.inr (.inr (.inr (fun i => some (q (120 + i)))))))), ((q 120), .inr (7, [.ref (q 124), .int 0, .int (-1)])), ((q 121), .inr (7, [.ref (q 125), .int 0, .int (-1)])), ((q 122), .inr (7, [.ref (q 126), .int 0, .int (-1)])), ((q 123), .inr (7, [.ref (q 127), .int 0, .int (-1)])), ((q 124), .inl (k 2, 60, .inr (.inl (fun _ => 0)))), ((q 125), .inl (k 2, 60, .inr (.inl (fun _ => 0)))), ((q 126), .inl (k 2, 60, .inr (.inl (fun _ => 0)))), ((q 127), .inl (k 2, 60, .inr (.inl (fun _ => 0))))] H := hP
        have hD : va_D A [((q 1), .inl (k 3, 4, .inr (.inr (.inr (.inr (fun i => some (q (120 + i)))))))), ((q 120), .inr (7, [.ref (q 124), .int 0, .int (-1)])), ((q 121), .inr (7, [.ref (q 125), .int 0, .int (-1)])), ((q 122), .inr (7, [.ref (q 126), .int 0, .int (-1)])), ((q 123), .inr (7, [.ref (q 127), .int 0, .int (-1)])), ((q 124), .inl (k 2, 60, .inr (.inl (fun _ => 0)))), ((q 125), .inl (k 2, 60, .inr (.inl (fun _ => 0)))), ((q 126), .inl (k 2, 60, .inr (.inl (fun _ => 0)))), ((q 127), .inl (k 2, 60, .inr (.inl (fun _ => 0))))] := hD
        refine W.eq (g2 := F0 m 29 ls [.int 0]) rfl ?_
        exact EWz hx hb hr hlocks hS () (by simp [trA, c_1, c_3]) rfl trivial nil_P nil_D dX11_tray_29
      ·
        refine lv_iload_n hx hb dX11_tray_15 rfl (lv_at hl 3 rfl) ?_
        refine lv_bipush (v := 60) hx hb dX11_tray_16 (by decide) ?_
        refine CRS (As := [.int c1, .int 60]) (rest := []) hx hb hml hown hts hKK (hP.sub (ws' := []) [] rfl) (c_isWithin l D k c1 60) ci_X11_isWithin qm_X11_103 ⟨Nat.le_of_ble_eq_true rfl, Nat.le_of_ble_eq_true rfl⟩ ⟨Nat.le_of_ble_eq_true rfl, Nat.le_of_ble_eq_true rfl⟩ rfl hl.1 rfl (Nat.le_of_ble_eq_true rfl) dX11_tray_18 ?_
        refine lv_if_ne (tgt := 30) hx hb dX11_tray_21 (by decide) (fun c_5 => ?_) (fun c_5 => ?_)
        ·
          refine lv_aload_n hx hb dX11_tray_30 rfl (lv_at hl 0 rfl) ?_
          refine va_get (D := D) (ci := 11) (v := .ref (q 1)) (C := RX11) (T := TX11) (N := 16) hx hb hts iX11 hown hK hP 0 rfl rfl 0 (by decide) (hts _ qf_X11_11) (fun _ h => h) rfl dX11_tray_31 ?_
          refine lv_iload_n hx hb dX11_tray_34 rfl (lv_at hl 1 rfl) ?_
          refine va_aldq hx hb hK hP 1 3 rfl rfl (xin 0 4 rfl (by decide) (by decide)) dX11_tray_35 ?_
          refine W.eq (g2 := F0 m 36 ls [.ref (q 120)]) rfl ?_
          refine lv_iload_n hx hb dX11_tray_36 rfl (lv_at hl 2 rfl) ?_
          refine lv_iload_n hx hb dX11_tray_37 rfl (lv_at hl 3 rfl) ?_
          refine CWV (As := [.int b, .int c1]) (rest := []) (wc := [((q 120), .inr (7, [.ref (q 124), .int 0, .int (-1)])), ((q 124), .inl (k 2, 60, .inr (.inl (fun _ => 0))))]) (wr := [((q 0), .inr (11, [.ref (q 1), .ref (q 2), .ref (q 3), .ref (q 4), .ref (q 5), .ref (q 6), .ref (q 7), .ref (q 8), .ref (q 9), .ref (q 10), .ref (q 11), .int 0, .int 0, .int 0, .long 0, .long 1])), ((q 1), .inl (k 3, 4, .inr (.inr (.inr (.inr (fun i => some (q (120 + i)))))))), ((q 121), .inr (7, [.ref (q 125), .int 0, .int (-1)])), ((q 122), .inr (7, [.ref (q 126), .int 0, .int (-1)])), ((q 123), .inr (7, [.ref (q 127), .int 0, .int (-1)])), ((q 125), .inl (k 2, 60, .inr (.inl (fun _ => 0)))), ((q 126), .inl (k 2, 60, .inr (.inl (fun _ => 0)))), ((q 127), .inl (k 2, 60, .inr (.inl (fun _ => 0))))]) hx hb hml hown hts hKK hP hD hS hA (c_renew l D k (q 120) (q 124) 0 (-1) (fun _ => 0) b c1) ci_X7_renew qm_X11_110 ⟨Nat.le_of_ble_eq_true rfl, Nat.le_of_ble_eq_true rfl⟩ ⟨Nat.le_of_ble_eq_true rfl, Nat.le_of_ble_eq_true rfl⟩ [2, 6] [0, 1, 3, 4, 5, 7, 8, 9] rfl rfl rfl rfl rfl (by decide) 0 rfl rfl rfl hl.1 rfl (Nat.le_of_ble_eq_true rfl) dX11_tray_38 (fun u_6 H locs hφ hP hD hS => ?_)
          have hP : va_P D vwCl [((q 0), .inr (11, [.ref (q 1), .ref (q 2), .ref (q 3), .ref (q 4), .ref (q 5), .ref (q 6), .ref (q 7), .ref (q 8), .ref (q 9), .ref (q 10), .ref (q 11), .int 0, .int 0, .int 0, .long 0, .long 1])), ((q 1), .inl (k 3, 4, .inr (.inr (.inr (.inr (fun i => some (q (120 + i)))))))), ((q 121), .inr (7, [.ref (q 125), .int 0, .int (-1)])), ((q 122), .inr (7, [.ref (q 126), .int 0, .int (-1)])), ((q 123), .inr (7, [.ref (q 127), .int 0, .int (-1)])), ((q 125), .inl (k 2, 60, .inr (.inl (fun _ => 0)))), ((q 126), .inl (k 2, 60, .inr (.inl (fun _ => 0)))), ((q 127), .inl (k 2, 60, .inr (.inl (fun _ => 0))))] H := hP
          have hD : va_D A [((q 0), .inr (11, [.ref (q 1), .ref (q 2), .ref (q 3), .ref (q 4), .ref (q 5), .ref (q 6), .ref (q 7), .ref (q 8), .ref (q 9), .ref (q 10), .ref (q 11), .int 0, .int 0, .int 0, .long 0, .long 1])), ((q 1), .inl (k 3, 4, .inr (.inr (.inr (.inr (fun i => some (q (120 + i)))))))), ((q 121), .inr (7, [.ref (q 125), .int 0, .int (-1)])), ((q 122), .inr (7, [.ref (q 126), .int 0, .int (-1)])), ((q 123), .inr (7, [.ref (q 127), .int 0, .int (-1)])), ((q 125), .inl (k 2, 60, .inr (.inl (fun _ => 0)))), ((q 126), .inl (k 2, 60, .inr (.inl (fun _ => 0)))), ((q 127), .inl (k 2, 60, .inr (.inl (fun _ => 0))))] := hD
          refine W.eq (g2 := F0 m 41 ls []) rfl ?_
          refine lv_aload_n hx hb dX11_tray_41 rfl (lv_at hl 0 rfl) ?_
          refine CWV (As := []) (rest := []) (wc := [((q 0), .inr (11, [.ref (q 1), .ref (q 2), .ref (q 3), .ref (q 4), .ref (q 5), .ref (q 6), .ref (q 7), .ref (q 8), .ref (q 9), .ref (q 10), .ref (q 11), .int 0, .int 0, .int 0, .long 0, .long 1]))]) (wr := [((q 1), .inl (k 3, 4, .inr (.inr (.inr (.inr (fun i => some (q (120 + i)))))))), ((q 121), .inr (7, [.ref (q 125), .int 0, .int (-1)])), ((q 122), .inr (7, [.ref (q 126), .int 0, .int (-1)])), ((q 123), .inr (7, [.ref (q 127), .int 0, .int (-1)])), ((q 125), .inl (k 2, 60, .inr (.inl (fun _ => 0)))), ((q 126), .inl (k 2, 60, .inr (.inl (fun _ => 0)))), ((q 127), .inl (k 2, 60, .inr (.inl (fun _ => 0))))]) hx hb hml hown hts hKK hP hD hS hA (c_grant l D k (q 0) [.ref (q 1), .ref (q 2), .ref (q 3), .ref (q 4), .ref (q 5), .ref (q 6), .ref (q 7), .ref (q 8), .ref (q 9), .ref (q 10), .ref (q 11), .int 0, .int 0, .int 0, .long 0, .long 1] (Nat.le_of_ble_eq_true rfl)) ci_X11_grant qm_X11_114 ⟨Nat.le_of_ble_eq_true rfl, Nat.le_of_ble_eq_true rfl⟩ ⟨Nat.le_of_ble_eq_true rfl, Nat.le_of_ble_eq_true rfl⟩ [0] [1, 2, 3, 4, 5, 6, 7] rfl rfl rfl rfl rfl (by decide) 0 rfl rfl rfl hl.1 rfl (Nat.le_of_ble_eq_true rfl) dX11_tray_42 (fun u_7 H locs hφ hP hD hS => ?_)
          have hP : va_P D vwCl [((q 1), .inl (k 3, 4, .inr (.inr (.inr (.inr (fun i => some (q (120 + i)))))))), ((q 121), .inr (7, [.ref (q 125), .int 0, .int (-1)])), ((q 122), .inr (7, [.ref (q 126), .int 0, .int (-1)])), ((q 123), .inr (7, [.ref (q 127), .int 0, .int (-1)])), ((q 125), .inl (k 2, 60, .inr (.inl (fun _ => 0)))), ((q 126), .inl (k 2, 60, .inr (.inl (fun _ => 0)))), ((q 127), .inl (k 2, 60, .inr (.inl (fun _ => 0))))] H := hP
          have hD : va_D A [((q 1), .inl (k 3, 4, .inr (.inr (.inr (.inr (fun i => some (q (120 + i)))))))), ((q 121), .inr (7, [.ref (q 125), .int 0, .int (-1)])), ((q 122), .inr (7, [.ref (q 126), .int 0, .int (-1)])), ((q 123), .inr (7, [.ref (q 127), .int 0, .int (-1)])), ((q 125), .inl (k 2, 60, .inr (.inl (fun _ => 0)))), ((q 126), .inl (k 2, 60, .inr (.inl (fun _ => 0)))), ((q 127), .inl (k 2, 60, .inr (.inl (fun _ => 0))))] := hD
          refine W.eq (g2 := F0 m 45 ls [.int 1]) rfl ?_
          exact EWz hx hb hr hlocks hS () (by simp [trA, c_1, c_3, c_5]) rfl trivial nil_P nil_D dX11_tray_45
        ·
          refine lv_aload_n hx hb dX11_tray_24 rfl (lv_at hl 0 rfl) ?_
          refine lv_iconst (v := 1) hx hb dX11_tray_25 (by decide) ?_
          refine CWV (As := [.int 1]) (rest := []) (wc := [((q 0), .inr (11, [.ref (q 1), .ref (q 2), .ref (q 3), .ref (q 4), .ref (q 5), .ref (q 6), .ref (q 7), .ref (q 8), .ref (q 9), .ref (q 10), .ref (q 11), .int 0, .int 0, .int 0, .long 0, .long 1]))]) (wr := [((q 1), .inl (k 3, 4, .inr (.inr (.inr (.inr (fun i => some (q (120 + i)))))))), ((q 120), .inr (7, [.ref (q 124), .int 0, .int (-1)])), ((q 121), .inr (7, [.ref (q 125), .int 0, .int (-1)])), ((q 122), .inr (7, [.ref (q 126), .int 0, .int (-1)])), ((q 123), .inr (7, [.ref (q 127), .int 0, .int (-1)])), ((q 124), .inl (k 2, 60, .inr (.inl (fun _ => 0)))), ((q 125), .inl (k 2, 60, .inr (.inl (fun _ => 0)))), ((q 126), .inl (k 2, 60, .inr (.inl (fun _ => 0)))), ((q 127), .inl (k 2, 60, .inr (.inl (fun _ => 0))))]) hx hb hml hown hts hKK hP hD hS hA (c_deny l D k (q 0) [.ref (q 1), .ref (q 2), .ref (q 3), .ref (q 4), .ref (q 5), .ref (q 6), .ref (q 7), .ref (q 8), .ref (q 9), .ref (q 10), .ref (q 11), .int 0, .int 0, .int 0, .long 0, .long 1] (Nat.le_of_ble_eq_true rfl) 1) ci_X11_deny qm_X11_107 ⟨Nat.le_of_ble_eq_true rfl, Nat.le_of_ble_eq_true rfl⟩ ⟨Nat.le_of_ble_eq_true rfl, Nat.le_of_ble_eq_true rfl⟩ [0] [1, 2, 3, 4, 5, 6, 7, 8, 9] rfl rfl rfl rfl rfl (by decide) 0 rfl rfl rfl hl.1 rfl (Nat.le_of_ble_eq_true rfl) dX11_tray_26 (fun u_8 H locs hφ hP hD hS => ?_)
          have hP : va_P D vwCl [((q 1), .inl (k 3, 4, .inr (.inr (.inr (.inr (fun i => some (q (120 + i)))))))), ((q 120), .inr (7, [.ref (q 124), .int 0, .int (-1)])), ((q 121), .inr (7, [.ref (q 125), .int 0, .int (-1)])), ((q 122), .inr (7, [.ref (q 126), .int 0, .int (-1)])), ((q 123), .inr (7, [.ref (q 127), .int 0, .int (-1)])), ((q 124), .inl (k 2, 60, .inr (.inl (fun _ => 0)))), ((q 125), .inl (k 2, 60, .inr (.inl (fun _ => 0)))), ((q 126), .inl (k 2, 60, .inr (.inl (fun _ => 0)))), ((q 127), .inl (k 2, 60, .inr (.inl (fun _ => 0))))] H := hP
          have hD : va_D A [((q 1), .inl (k 3, 4, .inr (.inr (.inr (.inr (fun i => some (q (120 + i)))))))), ((q 120), .inr (7, [.ref (q 124), .int 0, .int (-1)])), ((q 121), .inr (7, [.ref (q 125), .int 0, .int (-1)])), ((q 122), .inr (7, [.ref (q 126), .int 0, .int (-1)])), ((q 123), .inr (7, [.ref (q 127), .int 0, .int (-1)])), ((q 124), .inl (k 2, 60, .inr (.inl (fun _ => 0)))), ((q 125), .inl (k 2, 60, .inr (.inl (fun _ => 0)))), ((q 126), .inl (k 2, 60, .inr (.inl (fun _ => 0)))), ((q 127), .inl (k 2, 60, .inr (.inl (fun _ => 0))))] := hD
          refine W.eq (g2 := F0 m 29 ls [.int 0]) rfl ?_
          exact EWz hx hb hr hlocks hS () (by simp [trA, c_1, c_3, c_5]) rfl trivial nil_P nil_D dX11_tray_29
    ·
      refine lv_iload_n hx hb dX11_tray_7 rfl (lv_at hl 2 rfl) ?_
      refine lv_iconst (v := 3) hx hb dX11_tray_8 (by decide) ?_
      refine CRS (As := [.int b, .int 3]) (rest := []) hx hb hml hown hts hKK (hP.sub (ws' := []) [] rfl) (c_isWithin l D k b 3) ci_X11_isWithin qm_X11_103 ⟨Nat.le_of_ble_eq_true rfl, Nat.le_of_ble_eq_true rfl⟩ ⟨Nat.le_of_ble_eq_true rfl, Nat.le_of_ble_eq_true rfl⟩ rfl hl.1 rfl (Nat.le_of_ble_eq_true rfl) dX11_tray_9 ?_
      refine lv_if_eq (tgt := 24) hx hb dX11_tray_12 (by decide) (fun c_9 => ?_) (fun c_9 => ?_)
      ·
        refine lv_aload_n hx hb dX11_tray_24 rfl (lv_at hl 0 rfl) ?_
        refine lv_iconst (v := 1) hx hb dX11_tray_25 (by decide) ?_
        refine CWV (As := [.int 1]) (rest := []) (wc := [((q 0), .inr (11, [.ref (q 1), .ref (q 2), .ref (q 3), .ref (q 4), .ref (q 5), .ref (q 6), .ref (q 7), .ref (q 8), .ref (q 9), .ref (q 10), .ref (q 11), .int 0, .int 0, .int 0, .long 0, .long 1]))]) (wr := [((q 1), .inl (k 3, 4, .inr (.inr (.inr (.inr (fun i => some (q (120 + i)))))))), ((q 120), .inr (7, [.ref (q 124), .int 0, .int (-1)])), ((q 121), .inr (7, [.ref (q 125), .int 0, .int (-1)])), ((q 122), .inr (7, [.ref (q 126), .int 0, .int (-1)])), ((q 123), .inr (7, [.ref (q 127), .int 0, .int (-1)])), ((q 124), .inl (k 2, 60, .inr (.inl (fun _ => 0)))), ((q 125), .inl (k 2, 60, .inr (.inl (fun _ => 0)))), ((q 126), .inl (k 2, 60, .inr (.inl (fun _ => 0)))), ((q 127), .inl (k 2, 60, .inr (.inl (fun _ => 0))))]) hx hb hml hown hts hKK hP hD hS hA (c_deny l D k (q 0) [.ref (q 1), .ref (q 2), .ref (q 3), .ref (q 4), .ref (q 5), .ref (q 6), .ref (q 7), .ref (q 8), .ref (q 9), .ref (q 10), .ref (q 11), .int 0, .int 0, .int 0, .long 0, .long 1] (Nat.le_of_ble_eq_true rfl) 1) ci_X11_deny qm_X11_107 ⟨Nat.le_of_ble_eq_true rfl, Nat.le_of_ble_eq_true rfl⟩ ⟨Nat.le_of_ble_eq_true rfl, Nat.le_of_ble_eq_true rfl⟩ [0] [1, 2, 3, 4, 5, 6, 7, 8, 9] rfl rfl rfl rfl rfl (by decide) 0 rfl rfl rfl hl.1 rfl (Nat.le_of_ble_eq_true rfl) dX11_tray_26 (fun u_10 H locs hφ hP hD hS => ?_)
        have hP : va_P D vwCl [((q 1), .inl (k 3, 4, .inr (.inr (.inr (.inr (fun i => some (q (120 + i)))))))), ((q 120), .inr (7, [.ref (q 124), .int 0, .int (-1)])), ((q 121), .inr (7, [.ref (q 125), .int 0, .int (-1)])), ((q 122), .inr (7, [.ref (q 126), .int 0, .int (-1)])), ((q 123), .inr (7, [.ref (q 127), .int 0, .int (-1)])), ((q 124), .inl (k 2, 60, .inr (.inl (fun _ => 0)))), ((q 125), .inl (k 2, 60, .inr (.inl (fun _ => 0)))), ((q 126), .inl (k 2, 60, .inr (.inl (fun _ => 0)))), ((q 127), .inl (k 2, 60, .inr (.inl (fun _ => 0))))] H := hP
        have hD : va_D A [((q 1), .inl (k 3, 4, .inr (.inr (.inr (.inr (fun i => some (q (120 + i)))))))), ((q 120), .inr (7, [.ref (q 124), .int 0, .int (-1)])), ((q 121), .inr (7, [.ref (q 125), .int 0, .int (-1)])), ((q 122), .inr (7, [.ref (q 126), .int 0, .int (-1)])), ((q 123), .inr (7, [.ref (q 127), .int 0, .int (-1)])), ((q 124), .inl (k 2, 60, .inr (.inl (fun _ => 0)))), ((q 125), .inl (k 2, 60, .inr (.inl (fun _ => 0)))), ((q 126), .inl (k 2, 60, .inr (.inl (fun _ => 0)))), ((q 127), .inl (k 2, 60, .inr (.inl (fun _ => 0))))] := hD
        refine W.eq (g2 := F0 m 29 ls [.int 0]) rfl ?_
        exact EWz hx hb hr hlocks hS () (by simp [trA, c_1, c_9]) rfl trivial nil_P nil_D dX11_tray_29
      ·
        refine lv_iload_n hx hb dX11_tray_15 rfl (lv_at hl 3 rfl) ?_
        refine lv_bipush (v := 60) hx hb dX11_tray_16 (by decide) ?_
        refine CRS (As := [.int c1, .int 60]) (rest := []) hx hb hml hown hts hKK (hP.sub (ws' := []) [] rfl) (c_isWithin l D k c1 60) ci_X11_isWithin qm_X11_103 ⟨Nat.le_of_ble_eq_true rfl, Nat.le_of_ble_eq_true rfl⟩ ⟨Nat.le_of_ble_eq_true rfl, Nat.le_of_ble_eq_true rfl⟩ rfl hl.1 rfl (Nat.le_of_ble_eq_true rfl) dX11_tray_18 ?_
        refine lv_if_ne (tgt := 30) hx hb dX11_tray_21 (by decide) (fun c_11 => ?_) (fun c_11 => ?_)
        ·
          refine lv_aload_n hx hb dX11_tray_30 rfl (lv_at hl 0 rfl) ?_
          refine va_get (D := D) (ci := 11) (v := .ref (q 1)) (C := RX11) (T := TX11) (N := 16) hx hb hts iX11 hown hK hP 0 rfl rfl 0 (by decide) (hts _ qf_X11_11) (fun _ h => h) rfl dX11_tray_31 ?_
          refine lv_iload_n hx hb dX11_tray_34 rfl (lv_at hl 1 rfl) ?_
          refine va_aldq hx hb hK hP 1 3 rfl rfl (xin 1 4 rfl (by decide) (by decide)) dX11_tray_35 ?_
          refine W.eq (g2 := F0 m 36 ls [.ref (q 121)]) rfl ?_
          refine lv_iload_n hx hb dX11_tray_36 rfl (lv_at hl 2 rfl) ?_
          refine lv_iload_n hx hb dX11_tray_37 rfl (lv_at hl 3 rfl) ?_
          refine CWV (As := [.int b, .int c1]) (rest := []) (wc := [((q 121), .inr (7, [.ref (q 125), .int 0, .int (-1)])), ((q 125), .inl (k 2, 60, .inr (.inl (fun _ => 0))))]) (wr := [((q 0), .inr (11, [.ref (q 1), .ref (q 2), .ref (q 3), .ref (q 4), .ref (q 5), .ref (q 6), .ref (q 7), .ref (q 8), .ref (q 9), .ref (q 10), .ref (q 11), .int 0, .int 0, .int 0, .long 0, .long 1])), ((q 1), .inl (k 3, 4, .inr (.inr (.inr (.inr (fun i => some (q (120 + i)))))))), ((q 120), .inr (7, [.ref (q 124), .int 0, .int (-1)])), ((q 122), .inr (7, [.ref (q 126), .int 0, .int (-1)])), ((q 123), .inr (7, [.ref (q 127), .int 0, .int (-1)])), ((q 124), .inl (k 2, 60, .inr (.inl (fun _ => 0)))), ((q 126), .inl (k 2, 60, .inr (.inl (fun _ => 0)))), ((q 127), .inl (k 2, 60, .inr (.inl (fun _ => 0))))]) hx hb hml hown hts hKK hP hD hS hA (c_renew l D k (q 121) (q 125) 0 (-1) (fun _ => 0) b c1) ci_X7_renew qm_X11_110 ⟨Nat.le_of_ble_eq_true rfl, Nat.le_of_ble_eq_true rfl⟩ ⟨Nat.le_of_ble_eq_true rfl, Nat.le_of_ble_eq_true rfl⟩ [3, 7] [0, 1, 2, 4, 5, 6, 8, 9] rfl rfl rfl rfl rfl (by decide) 0 rfl rfl rfl hl.1 rfl (Nat.le_of_ble_eq_true rfl) dX11_tray_38 (fun u_12 H locs hφ hP hD hS => ?_)
          have hP : va_P D vwCl [((q 0), .inr (11, [.ref (q 1), .ref (q 2), .ref (q 3), .ref (q 4), .ref (q 5), .ref (q 6), .ref (q 7), .ref (q 8), .ref (q 9), .ref (q 10), .ref (q 11), .int 0, .int 0, .int 0, .long 0, .long 1])), ((q 1), .inl (k 3, 4, .inr (.inr (.inr (.inr (fun i => some (q (120 + i)))))))), ((q 120), .inr (7, [.ref (q 124), .int 0, .int (-1)])), ((q 122), .inr (7, [.ref (q 126), .int 0, .int (-1)])), ((q 123), .inr (7, [.ref (q 127), .int 0, .int (-1)])), ((q 124), .inl (k 2, 60, .inr (.inl (fun _ => 0)))), ((q 126), .inl (k 2, 60, .inr (.inl (fun _ => 0)))), ((q 127), .inl (k 2, 60, .inr (.inl (fun _ => 0))))] H := hP
          have hD : va_D A [((q 0), .inr (11, [.ref (q 1), .ref (q 2), .ref (q 3), .ref (q 4), .ref (q 5), .ref (q 6), .ref (q 7), .ref (q 8), .ref (q 9), .ref (q 10), .ref (q 11), .int 0, .int 0, .int 0, .long 0, .long 1])), ((q 1), .inl (k 3, 4, .inr (.inr (.inr (.inr (fun i => some (q (120 + i)))))))), ((q 120), .inr (7, [.ref (q 124), .int 0, .int (-1)])), ((q 122), .inr (7, [.ref (q 126), .int 0, .int (-1)])), ((q 123), .inr (7, [.ref (q 127), .int 0, .int (-1)])), ((q 124), .inl (k 2, 60, .inr (.inl (fun _ => 0)))), ((q 126), .inl (k 2, 60, .inr (.inl (fun _ => 0)))), ((q 127), .inl (k 2, 60, .inr (.inl (fun _ => 0))))] := hD
          refine W.eq (g2 := F0 m 41 ls []) rfl ?_
          refine lv_aload_n hx hb dX11_tray_41 rfl (lv_at hl 0 rfl) ?_
          refine CWV (As := []) (rest := []) (wc := [((q 0), .inr (11, [.ref (q 1), .ref (q 2), .ref (q 3), .ref (q 4), .ref (q 5), .ref (q 6), .ref (q 7), .ref (q 8), .ref (q 9), .ref (q 10), .ref (q 11), .int 0, .int 0, .int 0, .long 0, .long 1]))]) (wr := [((q 1), .inl (k 3, 4, .inr (.inr (.inr (.inr (fun i => some (q (120 + i)))))))), ((q 120), .inr (7, [.ref (q 124), .int 0, .int (-1)])), ((q 122), .inr (7, [.ref (q 126), .int 0, .int (-1)])), ((q 123), .inr (7, [.ref (q 127), .int 0, .int (-1)])), ((q 124), .inl (k 2, 60, .inr (.inl (fun _ => 0)))), ((q 126), .inl (k 2, 60, .inr (.inl (fun _ => 0)))), ((q 127), .inl (k 2, 60, .inr (.inl (fun _ => 0))))]) hx hb hml hown hts hKK hP hD hS hA (c_grant l D k (q 0) [.ref (q 1), .ref (q 2), .ref (q 3), .ref (q 4), .ref (q 5), .ref (q 6), .ref (q 7), .ref (q 8), .ref (q 9), .ref (q 10), .ref (q 11), .int 0, .int 0, .int 0, .long 0, .long 1] (Nat.le_of_ble_eq_true rfl)) ci_X11_grant qm_X11_114 ⟨Nat.le_of_ble_eq_true rfl, Nat.le_of_ble_eq_true rfl⟩ ⟨Nat.le_of_ble_eq_true rfl, Nat.le_of_ble_eq_true rfl⟩ [0] [1, 2, 3, 4, 5, 6, 7] rfl rfl rfl rfl rfl (by decide) 0 rfl rfl rfl hl.1 rfl (Nat.le_of_ble_eq_true rfl) dX11_tray_42 (fun u_13 H locs hφ hP hD hS => ?_)
          have hP : va_P D vwCl [((q 1), .inl (k 3, 4, .inr (.inr (.inr (.inr (fun i => some (q (120 + i)))))))), ((q 120), .inr (7, [.ref (q 124), .int 0, .int (-1)])), ((q 122), .inr (7, [.ref (q 126), .int 0, .int (-1)])), ((q 123), .inr (7, [.ref (q 127), .int 0, .int (-1)])), ((q 124), .inl (k 2, 60, .inr (.inl (fun _ => 0)))), ((q 126), .inl (k 2, 60, .inr (.inl (fun _ => 0)))), ((q 127), .inl (k 2, 60, .inr (.inl (fun _ => 0))))] H := hP
          have hD : va_D A [((q 1), .inl (k 3, 4, .inr (.inr (.inr (.inr (fun i => some (q (120 + i)))))))), ((q 120), .inr (7, [.ref (q 124), .int 0, .int (-1)])), ((q 122), .inr (7, [.ref (q 126), .int 0, .int (-1)])), ((q 123), .inr (7, [.ref (q 127), .int 0, .int (-1)])), ((q 124), .inl (k 2, 60, .inr (.inl (fun _ => 0)))), ((q 126), .inl (k 2, 60, .inr (.inl (fun _ => 0)))), ((q 127), .inl (k 2, 60, .inr (.inl (fun _ => 0))))] := hD
          refine W.eq (g2 := F0 m 45 ls [.int 1]) rfl ?_
          exact EWz hx hb hr hlocks hS () (by simp [trA, c_1, c_9, c_11]) rfl trivial nil_P nil_D dX11_tray_45
        ·
          refine lv_aload_n hx hb dX11_tray_24 rfl (lv_at hl 0 rfl) ?_
          refine lv_iconst (v := 1) hx hb dX11_tray_25 (by decide) ?_
          refine CWV (As := [.int 1]) (rest := []) (wc := [((q 0), .inr (11, [.ref (q 1), .ref (q 2), .ref (q 3), .ref (q 4), .ref (q 5), .ref (q 6), .ref (q 7), .ref (q 8), .ref (q 9), .ref (q 10), .ref (q 11), .int 0, .int 0, .int 0, .long 0, .long 1]))]) (wr := [((q 1), .inl (k 3, 4, .inr (.inr (.inr (.inr (fun i => some (q (120 + i)))))))), ((q 120), .inr (7, [.ref (q 124), .int 0, .int (-1)])), ((q 121), .inr (7, [.ref (q 125), .int 0, .int (-1)])), ((q 122), .inr (7, [.ref (q 126), .int 0, .int (-1)])), ((q 123), .inr (7, [.ref (q 127), .int 0, .int (-1)])), ((q 124), .inl (k 2, 60, .inr (.inl (fun _ => 0)))), ((q 125), .inl (k 2, 60, .inr (.inl (fun _ => 0)))), ((q 126), .inl (k 2, 60, .inr (.inl (fun _ => 0)))), ((q 127), .inl (k 2, 60, .inr (.inl (fun _ => 0))))]) hx hb hml hown hts hKK hP hD hS hA (c_deny l D k (q 0) [.ref (q 1), .ref (q 2), .ref (q 3), .ref (q 4), .ref (q 5), .ref (q 6), .ref (q 7), .ref (q 8), .ref (q 9), .ref (q 10), .ref (q 11), .int 0, .int 0, .int 0, .long 0, .long 1] (Nat.le_of_ble_eq_true rfl) 1) ci_X11_deny qm_X11_107 ⟨Nat.le_of_ble_eq_true rfl, Nat.le_of_ble_eq_true rfl⟩ ⟨Nat.le_of_ble_eq_true rfl, Nat.le_of_ble_eq_true rfl⟩ [0] [1, 2, 3, 4, 5, 6, 7, 8, 9] rfl rfl rfl rfl rfl (by decide) 0 rfl rfl rfl hl.1 rfl (Nat.le_of_ble_eq_true rfl) dX11_tray_26 (fun u_14 H locs hφ hP hD hS => ?_)
          have hP : va_P D vwCl [((q 1), .inl (k 3, 4, .inr (.inr (.inr (.inr (fun i => some (q (120 + i)))))))), ((q 120), .inr (7, [.ref (q 124), .int 0, .int (-1)])), ((q 121), .inr (7, [.ref (q 125), .int 0, .int (-1)])), ((q 122), .inr (7, [.ref (q 126), .int 0, .int (-1)])), ((q 123), .inr (7, [.ref (q 127), .int 0, .int (-1)])), ((q 124), .inl (k 2, 60, .inr (.inl (fun _ => 0)))), ((q 125), .inl (k 2, 60, .inr (.inl (fun _ => 0)))), ((q 126), .inl (k 2, 60, .inr (.inl (fun _ => 0)))), ((q 127), .inl (k 2, 60, .inr (.inl (fun _ => 0))))] H := hP
          have hD : va_D A [((q 1), .inl (k 3, 4, .inr (.inr (.inr (.inr (fun i => some (q (120 + i)))))))), ((q 120), .inr (7, [.ref (q 124), .int 0, .int (-1)])), ((q 121), .inr (7, [.ref (q 125), .int 0, .int (-1)])), ((q 122), .inr (7, [.ref (q 126), .int 0, .int (-1)])), ((q 123), .inr (7, [.ref (q 127), .int 0, .int (-1)])), ((q 124), .inl (k 2, 60, .inr (.inl (fun _ => 0)))), ((q 125), .inl (k 2, 60, .inr (.inl (fun _ => 0)))), ((q 126), .inl (k 2, 60, .inr (.inl (fun _ => 0)))), ((q 127), .inl (k 2, 60, .inr (.inl (fun _ => 0))))] := hD
          refine W.eq (g2 := F0 m 29 ls [.int 0]) rfl ?_
          exact EWz hx hb hr hlocks hS () (by simp [trA, c_1, c_9, c_11]) rfl trivial nil_P nil_D dX11_tray_29
    ·
      refine lv_iload_n hx hb dX11_tray_7 rfl (lv_at hl 2 rfl) ?_
      refine lv_iconst (v := 3) hx hb dX11_tray_8 (by decide) ?_
      refine CRS (As := [.int b, .int 3]) (rest := []) hx hb hml hown hts hKK (hP.sub (ws' := []) [] rfl) (c_isWithin l D k b 3) ci_X11_isWithin qm_X11_103 ⟨Nat.le_of_ble_eq_true rfl, Nat.le_of_ble_eq_true rfl⟩ ⟨Nat.le_of_ble_eq_true rfl, Nat.le_of_ble_eq_true rfl⟩ rfl hl.1 rfl (Nat.le_of_ble_eq_true rfl) dX11_tray_9 ?_
      refine lv_if_eq (tgt := 24) hx hb dX11_tray_12 (by decide) (fun c_15 => ?_) (fun c_15 => ?_)
      ·
        refine lv_aload_n hx hb dX11_tray_24 rfl (lv_at hl 0 rfl) ?_
        refine lv_iconst (v := 1) hx hb dX11_tray_25 (by decide) ?_
        refine CWV (As := [.int 1]) (rest := []) (wc := [((q 0), .inr (11, [.ref (q 1), .ref (q 2), .ref (q 3), .ref (q 4), .ref (q 5), .ref (q 6), .ref (q 7), .ref (q 8), .ref (q 9), .ref (q 10), .ref (q 11), .int 0, .int 0, .int 0, .long 0, .long 1]))]) (wr := [((q 1), .inl (k 3, 4, .inr (.inr (.inr (.inr (fun i => some (q (120 + i)))))))), ((q 120), .inr (7, [.ref (q 124), .int 0, .int (-1)])), ((q 121), .inr (7, [.ref (q 125), .int 0, .int (-1)])), ((q 122), .inr (7, [.ref (q 126), .int 0, .int (-1)])), ((q 123), .inr (7, [.ref (q 127), .int 0, .int (-1)])), ((q 124), .inl (k 2, 60, .inr (.inl (fun _ => 0)))), ((q 125), .inl (k 2, 60, .inr (.inl (fun _ => 0)))), ((q 126), .inl (k 2, 60, .inr (.inl (fun _ => 0)))), ((q 127), .inl (k 2, 60, .inr (.inl (fun _ => 0))))]) hx hb hml hown hts hKK hP hD hS hA (c_deny l D k (q 0) [.ref (q 1), .ref (q 2), .ref (q 3), .ref (q 4), .ref (q 5), .ref (q 6), .ref (q 7), .ref (q 8), .ref (q 9), .ref (q 10), .ref (q 11), .int 0, .int 0, .int 0, .long 0, .long 1] (Nat.le_of_ble_eq_true rfl) 1) ci_X11_deny qm_X11_107 ⟨Nat.le_of_ble_eq_true rfl, Nat.le_of_ble_eq_true rfl⟩ ⟨Nat.le_of_ble_eq_true rfl, Nat.le_of_ble_eq_true rfl⟩ [0] [1, 2, 3, 4, 5, 6, 7, 8, 9] rfl rfl rfl rfl rfl (by decide) 0 rfl rfl rfl hl.1 rfl (Nat.le_of_ble_eq_true rfl) dX11_tray_26 (fun u_16 H locs hφ hP hD hS => ?_)
        have hP : va_P D vwCl [((q 1), .inl (k 3, 4, .inr (.inr (.inr (.inr (fun i => some (q (120 + i)))))))), ((q 120), .inr (7, [.ref (q 124), .int 0, .int (-1)])), ((q 121), .inr (7, [.ref (q 125), .int 0, .int (-1)])), ((q 122), .inr (7, [.ref (q 126), .int 0, .int (-1)])), ((q 123), .inr (7, [.ref (q 127), .int 0, .int (-1)])), ((q 124), .inl (k 2, 60, .inr (.inl (fun _ => 0)))), ((q 125), .inl (k 2, 60, .inr (.inl (fun _ => 0)))), ((q 126), .inl (k 2, 60, .inr (.inl (fun _ => 0)))), ((q 127), .inl (k 2, 60, .inr (.inl (fun _ => 0))))] H := hP
        have hD : va_D A [((q 1), .inl (k 3, 4, .inr (.inr (.inr (.inr (fun i => some (q (120 + i)))))))), ((q 120), .inr (7, [.ref (q 124), .int 0, .int (-1)])), ((q 121), .inr (7, [.ref (q 125), .int 0, .int (-1)])), ((q 122), .inr (7, [.ref (q 126), .int 0, .int (-1)])), ((q 123), .inr (7, [.ref (q 127), .int 0, .int (-1)])), ((q 124), .inl (k 2, 60, .inr (.inl (fun _ => 0)))), ((q 125), .inl (k 2, 60, .inr (.inl (fun _ => 0)))), ((q 126), .inl (k 2, 60, .inr (.inl (fun _ => 0)))), ((q 127), .inl (k 2, 60, .inr (.inl (fun _ => 0))))] := hD
        refine W.eq (g2 := F0 m 29 ls [.int 0]) rfl ?_
        exact EWz hx hb hr hlocks hS () (by simp [trA, c_1, c_15]) rfl trivial nil_P nil_D dX11_tray_29
      ·
        refine lv_iload_n hx hb dX11_tray_15 rfl (lv_at hl 3 rfl) ?_
        refine lv_bipush (v := 60) hx hb dX11_tray_16 (by decide) ?_
        refine CRS (As := [.int c1, .int 60]) (rest := []) hx hb hml hown hts hKK (hP.sub (ws' := []) [] rfl) (c_isWithin l D k c1 60) ci_X11_isWithin qm_X11_103 ⟨Nat.le_of_ble_eq_true rfl, Nat.le_of_ble_eq_true rfl⟩ ⟨Nat.le_of_ble_eq_true rfl, Nat.le_of_ble_eq_true rfl⟩ rfl hl.1 rfl (Nat.le_of_ble_eq_true rfl) dX11_tray_18 ?_
        refine lv_if_ne (tgt := 30) hx hb dX11_tray_21 (by decide) (fun c_17 => ?_) (fun c_17 => ?_)
        ·
          refine lv_aload_n hx hb dX11_tray_30 rfl (lv_at hl 0 rfl) ?_
          refine va_get (D := D) (ci := 11) (v := .ref (q 1)) (C := RX11) (T := TX11) (N := 16) hx hb hts iX11 hown hK hP 0 rfl rfl 0 (by decide) (hts _ qf_X11_11) (fun _ h => h) rfl dX11_tray_31 ?_
          refine lv_iload_n hx hb dX11_tray_34 rfl (lv_at hl 1 rfl) ?_
          refine va_aldq hx hb hK hP 1 3 rfl rfl (xin 2 4 rfl (by decide) (by decide)) dX11_tray_35 ?_
          refine W.eq (g2 := F0 m 36 ls [.ref (q 122)]) rfl ?_
          refine lv_iload_n hx hb dX11_tray_36 rfl (lv_at hl 2 rfl) ?_
          refine lv_iload_n hx hb dX11_tray_37 rfl (lv_at hl 3 rfl) ?_
          refine CWV (As := [.int b, .int c1]) (rest := []) (wc := [((q 122), .inr (7, [.ref (q 126), .int 0, .int (-1)])), ((q 126), .inl (k 2, 60, .inr (.inl (fun _ => 0))))]) (wr := [((q 0), .inr (11, [.ref (q 1), .ref (q 2), .ref (q 3), .ref (q 4), .ref (q 5), .ref (q 6), .ref (q 7), .ref (q 8), .ref (q 9), .ref (q 10), .ref (q 11), .int 0, .int 0, .int 0, .long 0, .long 1])), ((q 1), .inl (k 3, 4, .inr (.inr (.inr (.inr (fun i => some (q (120 + i)))))))), ((q 120), .inr (7, [.ref (q 124), .int 0, .int (-1)])), ((q 121), .inr (7, [.ref (q 125), .int 0, .int (-1)])), ((q 123), .inr (7, [.ref (q 127), .int 0, .int (-1)])), ((q 124), .inl (k 2, 60, .inr (.inl (fun _ => 0)))), ((q 125), .inl (k 2, 60, .inr (.inl (fun _ => 0)))), ((q 127), .inl (k 2, 60, .inr (.inl (fun _ => 0))))]) hx hb hml hown hts hKK hP hD hS hA (c_renew l D k (q 122) (q 126) 0 (-1) (fun _ => 0) b c1) ci_X7_renew qm_X11_110 ⟨Nat.le_of_ble_eq_true rfl, Nat.le_of_ble_eq_true rfl⟩ ⟨Nat.le_of_ble_eq_true rfl, Nat.le_of_ble_eq_true rfl⟩ [4, 8] [0, 1, 2, 3, 5, 6, 7, 9] rfl rfl rfl rfl rfl (by decide) 0 rfl rfl rfl hl.1 rfl (Nat.le_of_ble_eq_true rfl) dX11_tray_38 (fun u_18 H locs hφ hP hD hS => ?_)
          have hP : va_P D vwCl [((q 0), .inr (11, [.ref (q 1), .ref (q 2), .ref (q 3), .ref (q 4), .ref (q 5), .ref (q 6), .ref (q 7), .ref (q 8), .ref (q 9), .ref (q 10), .ref (q 11), .int 0, .int 0, .int 0, .long 0, .long 1])), ((q 1), .inl (k 3, 4, .inr (.inr (.inr (.inr (fun i => some (q (120 + i)))))))), ((q 120), .inr (7, [.ref (q 124), .int 0, .int (-1)])), ((q 121), .inr (7, [.ref (q 125), .int 0, .int (-1)])), ((q 123), .inr (7, [.ref (q 127), .int 0, .int (-1)])), ((q 124), .inl (k 2, 60, .inr (.inl (fun _ => 0)))), ((q 125), .inl (k 2, 60, .inr (.inl (fun _ => 0)))), ((q 127), .inl (k 2, 60, .inr (.inl (fun _ => 0))))] H := hP
          have hD : va_D A [((q 0), .inr (11, [.ref (q 1), .ref (q 2), .ref (q 3), .ref (q 4), .ref (q 5), .ref (q 6), .ref (q 7), .ref (q 8), .ref (q 9), .ref (q 10), .ref (q 11), .int 0, .int 0, .int 0, .long 0, .long 1])), ((q 1), .inl (k 3, 4, .inr (.inr (.inr (.inr (fun i => some (q (120 + i)))))))), ((q 120), .inr (7, [.ref (q 124), .int 0, .int (-1)])), ((q 121), .inr (7, [.ref (q 125), .int 0, .int (-1)])), ((q 123), .inr (7, [.ref (q 127), .int 0, .int (-1)])), ((q 124), .inl (k 2, 60, .inr (.inl (fun _ => 0)))), ((q 125), .inl (k 2, 60, .inr (.inl (fun _ => 0)))), ((q 127), .inl (k 2, 60, .inr (.inl (fun _ => 0))))] := hD
          refine W.eq (g2 := F0 m 41 ls []) rfl ?_
          refine lv_aload_n hx hb dX11_tray_41 rfl (lv_at hl 0 rfl) ?_
          refine CWV (As := []) (rest := []) (wc := [((q 0), .inr (11, [.ref (q 1), .ref (q 2), .ref (q 3), .ref (q 4), .ref (q 5), .ref (q 6), .ref (q 7), .ref (q 8), .ref (q 9), .ref (q 10), .ref (q 11), .int 0, .int 0, .int 0, .long 0, .long 1]))]) (wr := [((q 1), .inl (k 3, 4, .inr (.inr (.inr (.inr (fun i => some (q (120 + i)))))))), ((q 120), .inr (7, [.ref (q 124), .int 0, .int (-1)])), ((q 121), .inr (7, [.ref (q 125), .int 0, .int (-1)])), ((q 123), .inr (7, [.ref (q 127), .int 0, .int (-1)])), ((q 124), .inl (k 2, 60, .inr (.inl (fun _ => 0)))), ((q 125), .inl (k 2, 60, .inr (.inl (fun _ => 0)))), ((q 127), .inl (k 2, 60, .inr (.inl (fun _ => 0))))]) hx hb hml hown hts hKK hP hD hS hA (c_grant l D k (q 0) [.ref (q 1), .ref (q 2), .ref (q 3), .ref (q 4), .ref (q 5), .ref (q 6), .ref (q 7), .ref (q 8), .ref (q 9), .ref (q 10), .ref (q 11), .int 0, .int 0, .int 0, .long 0, .long 1] (Nat.le_of_ble_eq_true rfl)) ci_X11_grant qm_X11_114 ⟨Nat.le_of_ble_eq_true rfl, Nat.le_of_ble_eq_true rfl⟩ ⟨Nat.le_of_ble_eq_true rfl, Nat.le_of_ble_eq_true rfl⟩ [0] [1, 2, 3, 4, 5, 6, 7] rfl rfl rfl rfl rfl (by decide) 0 rfl rfl rfl hl.1 rfl (Nat.le_of_ble_eq_true rfl) dX11_tray_42 (fun u_19 H locs hφ hP hD hS => ?_)
          have hP : va_P D vwCl [((q 1), .inl (k 3, 4, .inr (.inr (.inr (.inr (fun i => some (q (120 + i)))))))), ((q 120), .inr (7, [.ref (q 124), .int 0, .int (-1)])), ((q 121), .inr (7, [.ref (q 125), .int 0, .int (-1)])), ((q 123), .inr (7, [.ref (q 127), .int 0, .int (-1)])), ((q 124), .inl (k 2, 60, .inr (.inl (fun _ => 0)))), ((q 125), .inl (k 2, 60, .inr (.inl (fun _ => 0)))), ((q 127), .inl (k 2, 60, .inr (.inl (fun _ => 0))))] H := hP
          have hD : va_D A [((q 1), .inl (k 3, 4, .inr (.inr (.inr (.inr (fun i => some (q (120 + i)))))))), ((q 120), .inr (7, [.ref (q 124), .int 0, .int (-1)])), ((q 121), .inr (7, [.ref (q 125), .int 0, .int (-1)])), ((q 123), .inr (7, [.ref (q 127), .int 0, .int (-1)])), ((q 124), .inl (k 2, 60, .inr (.inl (fun _ => 0)))), ((q 125), .inl (k 2, 60, .inr (.inl (fun _ => 0)))), ((q 127), .inl (k 2, 60, .inr (.inl (fun _ => 0))))] := hD
          refine W.eq (g2 := F0 m 45 ls [.int 1]) rfl ?_
          exact EWz hx hb hr hlocks hS () (by simp [trA, c_1, c_15, c_17]) rfl trivial nil_P nil_D dX11_tray_45
        ·
          refine lv_aload_n hx hb dX11_tray_24 rfl (lv_at hl 0 rfl) ?_
          refine lv_iconst (v := 1) hx hb dX11_tray_25 (by decide) ?_
          refine CWV (As := [.int 1]) (rest := []) (wc := [((q 0), .inr (11, [.ref (q 1), .ref (q 2), .ref (q 3), .ref (q 4), .ref (q 5), .ref (q 6), .ref (q 7), .ref (q 8), .ref (q 9), .ref (q 10), .ref (q 11), .int 0, .int 0, .int 0, .long 0, .long 1]))]) (wr := [((q 1), .inl (k 3, 4, .inr (.inr (.inr (.inr (fun i => some (q (120 + i)))))))), ((q 120), .inr (7, [.ref (q 124), .int 0, .int (-1)])), ((q 121), .inr (7, [.ref (q 125), .int 0, .int (-1)])), ((q 122), .inr (7, [.ref (q 126), .int 0, .int (-1)])), ((q 123), .inr (7, [.ref (q 127), .int 0, .int (-1)])), ((q 124), .inl (k 2, 60, .inr (.inl (fun _ => 0)))), ((q 125), .inl (k 2, 60, .inr (.inl (fun _ => 0)))), ((q 126), .inl (k 2, 60, .inr (.inl (fun _ => 0)))), ((q 127), .inl (k 2, 60, .inr (.inl (fun _ => 0))))]) hx hb hml hown hts hKK hP hD hS hA (c_deny l D k (q 0) [.ref (q 1), .ref (q 2), .ref (q 3), .ref (q 4), .ref (q 5), .ref (q 6), .ref (q 7), .ref (q 8), .ref (q 9), .ref (q 10), .ref (q 11), .int 0, .int 0, .int 0, .long 0, .long 1] (Nat.le_of_ble_eq_true rfl) 1) ci_X11_deny qm_X11_107 ⟨Nat.le_of_ble_eq_true rfl, Nat.le_of_ble_eq_true rfl⟩ ⟨Nat.le_of_ble_eq_true rfl, Nat.le_of_ble_eq_true rfl⟩ [0] [1, 2, 3, 4, 5, 6, 7, 8, 9] rfl rfl rfl rfl rfl (by decide) 0 rfl rfl rfl hl.1 rfl (Nat.le_of_ble_eq_true rfl) dX11_tray_26 (fun u_20 H locs hφ hP hD hS => ?_)
          have hP : va_P D vwCl [((q 1), .inl (k 3, 4, .inr (.inr (.inr (.inr (fun i => some (q (120 + i)))))))), ((q 120), .inr (7, [.ref (q 124), .int 0, .int (-1)])), ((q 121), .inr (7, [.ref (q 125), .int 0, .int (-1)])), ((q 122), .inr (7, [.ref (q 126), .int 0, .int (-1)])), ((q 123), .inr (7, [.ref (q 127), .int 0, .int (-1)])), ((q 124), .inl (k 2, 60, .inr (.inl (fun _ => 0)))), ((q 125), .inl (k 2, 60, .inr (.inl (fun _ => 0)))), ((q 126), .inl (k 2, 60, .inr (.inl (fun _ => 0)))), ((q 127), .inl (k 2, 60, .inr (.inl (fun _ => 0))))] H := hP
          have hD : va_D A [((q 1), .inl (k 3, 4, .inr (.inr (.inr (.inr (fun i => some (q (120 + i)))))))), ((q 120), .inr (7, [.ref (q 124), .int 0, .int (-1)])), ((q 121), .inr (7, [.ref (q 125), .int 0, .int (-1)])), ((q 122), .inr (7, [.ref (q 126), .int 0, .int (-1)])), ((q 123), .inr (7, [.ref (q 127), .int 0, .int (-1)])), ((q 124), .inl (k 2, 60, .inr (.inl (fun _ => 0)))), ((q 125), .inl (k 2, 60, .inr (.inl (fun _ => 0)))), ((q 126), .inl (k 2, 60, .inr (.inl (fun _ => 0)))), ((q 127), .inl (k 2, 60, .inr (.inl (fun _ => 0))))] := hD
          refine W.eq (g2 := F0 m 29 ls [.int 0]) rfl ?_
          exact EWz hx hb hr hlocks hS () (by simp [trA, c_1, c_15, c_17]) rfl trivial nil_P nil_D dX11_tray_29
    ·
      refine lv_iload_n hx hb dX11_tray_7 rfl (lv_at hl 2 rfl) ?_
      refine lv_iconst (v := 3) hx hb dX11_tray_8 (by decide) ?_
      refine CRS (As := [.int b, .int 3]) (rest := []) hx hb hml hown hts hKK (hP.sub (ws' := []) [] rfl) (c_isWithin l D k b 3) ci_X11_isWithin qm_X11_103 ⟨Nat.le_of_ble_eq_true rfl, Nat.le_of_ble_eq_true rfl⟩ ⟨Nat.le_of_ble_eq_true rfl, Nat.le_of_ble_eq_true rfl⟩ rfl hl.1 rfl (Nat.le_of_ble_eq_true rfl) dX11_tray_9 ?_
      refine lv_if_eq (tgt := 24) hx hb dX11_tray_12 (by decide) (fun c_21 => ?_) (fun c_21 => ?_)
      ·
        refine lv_aload_n hx hb dX11_tray_24 rfl (lv_at hl 0 rfl) ?_
        refine lv_iconst (v := 1) hx hb dX11_tray_25 (by decide) ?_
        refine CWV (As := [.int 1]) (rest := []) (wc := [((q 0), .inr (11, [.ref (q 1), .ref (q 2), .ref (q 3), .ref (q 4), .ref (q 5), .ref (q 6), .ref (q 7), .ref (q 8), .ref (q 9), .ref (q 10), .ref (q 11), .int 0, .int 0, .int 0, .long 0, .long 1]))]) (wr := [((q 1), .inl (k 3, 4, .inr (.inr (.inr (.inr (fun i => some (q (120 + i)))))))), ((q 120), .inr (7, [.ref (q 124), .int 0, .int (-1)])), ((q 121), .inr (7, [.ref (q 125), .int 0, .int (-1)])), ((q 122), .inr (7, [.ref (q 126), .int 0, .int (-1)])), ((q 123), .inr (7, [.ref (q 127), .int 0, .int (-1)])), ((q 124), .inl (k 2, 60, .inr (.inl (fun _ => 0)))), ((q 125), .inl (k 2, 60, .inr (.inl (fun _ => 0)))), ((q 126), .inl (k 2, 60, .inr (.inl (fun _ => 0)))), ((q 127), .inl (k 2, 60, .inr (.inl (fun _ => 0))))]) hx hb hml hown hts hKK hP hD hS hA (c_deny l D k (q 0) [.ref (q 1), .ref (q 2), .ref (q 3), .ref (q 4), .ref (q 5), .ref (q 6), .ref (q 7), .ref (q 8), .ref (q 9), .ref (q 10), .ref (q 11), .int 0, .int 0, .int 0, .long 0, .long 1] (Nat.le_of_ble_eq_true rfl) 1) ci_X11_deny qm_X11_107 ⟨Nat.le_of_ble_eq_true rfl, Nat.le_of_ble_eq_true rfl⟩ ⟨Nat.le_of_ble_eq_true rfl, Nat.le_of_ble_eq_true rfl⟩ [0] [1, 2, 3, 4, 5, 6, 7, 8, 9] rfl rfl rfl rfl rfl (by decide) 0 rfl rfl rfl hl.1 rfl (Nat.le_of_ble_eq_true rfl) dX11_tray_26 (fun u_22 H locs hφ hP hD hS => ?_)
        have hP : va_P D vwCl [((q 1), .inl (k 3, 4, .inr (.inr (.inr (.inr (fun i => some (q (120 + i)))))))), ((q 120), .inr (7, [.ref (q 124), .int 0, .int (-1)])), ((q 121), .inr (7, [.ref (q 125), .int 0, .int (-1)])), ((q 122), .inr (7, [.ref (q 126), .int 0, .int (-1)])), ((q 123), .inr (7, [.ref (q 127), .int 0, .int (-1)])), ((q 124), .inl (k 2, 60, .inr (.inl (fun _ => 0)))), ((q 125), .inl (k 2, 60, .inr (.inl (fun _ => 0)))), ((q 126), .inl (k 2, 60, .inr (.inl (fun _ => 0)))), ((q 127), .inl (k 2, 60, .inr (.inl (fun _ => 0))))] H := hP
        have hD : va_D A [((q 1), .inl (k 3, 4, .inr (.inr (.inr (.inr (fun i => some (q (120 + i)))))))), ((q 120), .inr (7, [.ref (q 124), .int 0, .int (-1)])), ((q 121), .inr (7, [.ref (q 125), .int 0, .int (-1)])), ((q 122), .inr (7, [.ref (q 126), .int 0, .int (-1)])), ((q 123), .inr (7, [.ref (q 127), .int 0, .int (-1)])), ((q 124), .inl (k 2, 60, .inr (.inl (fun _ => 0)))), ((q 125), .inl (k 2, 60, .inr (.inl (fun _ => 0)))), ((q 126), .inl (k 2, 60, .inr (.inl (fun _ => 0)))), ((q 127), .inl (k 2, 60, .inr (.inl (fun _ => 0))))] := hD
        refine W.eq (g2 := F0 m 29 ls [.int 0]) rfl ?_
        exact EWz hx hb hr hlocks hS () (by simp [trA, c_1, c_21]) rfl trivial nil_P nil_D dX11_tray_29
      ·
        refine lv_iload_n hx hb dX11_tray_15 rfl (lv_at hl 3 rfl) ?_
        refine lv_bipush (v := 60) hx hb dX11_tray_16 (by decide) ?_
        refine CRS (As := [.int c1, .int 60]) (rest := []) hx hb hml hown hts hKK (hP.sub (ws' := []) [] rfl) (c_isWithin l D k c1 60) ci_X11_isWithin qm_X11_103 ⟨Nat.le_of_ble_eq_true rfl, Nat.le_of_ble_eq_true rfl⟩ ⟨Nat.le_of_ble_eq_true rfl, Nat.le_of_ble_eq_true rfl⟩ rfl hl.1 rfl (Nat.le_of_ble_eq_true rfl) dX11_tray_18 ?_
        refine lv_if_ne (tgt := 30) hx hb dX11_tray_21 (by decide) (fun c_23 => ?_) (fun c_23 => ?_)
        ·
          refine lv_aload_n hx hb dX11_tray_30 rfl (lv_at hl 0 rfl) ?_
          refine va_get (D := D) (ci := 11) (v := .ref (q 1)) (C := RX11) (T := TX11) (N := 16) hx hb hts iX11 hown hK hP 0 rfl rfl 0 (by decide) (hts _ qf_X11_11) (fun _ h => h) rfl dX11_tray_31 ?_
          refine lv_iload_n hx hb dX11_tray_34 rfl (lv_at hl 1 rfl) ?_
          refine va_aldq hx hb hK hP 1 3 rfl rfl (xin 3 4 rfl (by decide) (by decide)) dX11_tray_35 ?_
          refine W.eq (g2 := F0 m 36 ls [.ref (q 123)]) rfl ?_
          refine lv_iload_n hx hb dX11_tray_36 rfl (lv_at hl 2 rfl) ?_
          refine lv_iload_n hx hb dX11_tray_37 rfl (lv_at hl 3 rfl) ?_
          refine CWV (As := [.int b, .int c1]) (rest := []) (wc := [((q 123), .inr (7, [.ref (q 127), .int 0, .int (-1)])), ((q 127), .inl (k 2, 60, .inr (.inl (fun _ => 0))))]) (wr := [((q 0), .inr (11, [.ref (q 1), .ref (q 2), .ref (q 3), .ref (q 4), .ref (q 5), .ref (q 6), .ref (q 7), .ref (q 8), .ref (q 9), .ref (q 10), .ref (q 11), .int 0, .int 0, .int 0, .long 0, .long 1])), ((q 1), .inl (k 3, 4, .inr (.inr (.inr (.inr (fun i => some (q (120 + i)))))))), ((q 120), .inr (7, [.ref (q 124), .int 0, .int (-1)])), ((q 121), .inr (7, [.ref (q 125), .int 0, .int (-1)])), ((q 122), .inr (7, [.ref (q 126), .int 0, .int (-1)])), ((q 124), .inl (k 2, 60, .inr (.inl (fun _ => 0)))), ((q 125), .inl (k 2, 60, .inr (.inl (fun _ => 0)))), ((q 126), .inl (k 2, 60, .inr (.inl (fun _ => 0))))]) hx hb hml hown hts hKK hP hD hS hA (c_renew l D k (q 123) (q 127) 0 (-1) (fun _ => 0) b c1) ci_X7_renew qm_X11_110 ⟨Nat.le_of_ble_eq_true rfl, Nat.le_of_ble_eq_true rfl⟩ ⟨Nat.le_of_ble_eq_true rfl, Nat.le_of_ble_eq_true rfl⟩ [5, 9] [0, 1, 2, 3, 4, 6, 7, 8] rfl rfl rfl rfl rfl (by decide) 0 rfl rfl rfl hl.1 rfl (Nat.le_of_ble_eq_true rfl) dX11_tray_38 (fun u_24 H locs hφ hP hD hS => ?_)
          have hP : va_P D vwCl [((q 0), .inr (11, [.ref (q 1), .ref (q 2), .ref (q 3), .ref (q 4), .ref (q 5), .ref (q 6), .ref (q 7), .ref (q 8), .ref (q 9), .ref (q 10), .ref (q 11), .int 0, .int 0, .int 0, .long 0, .long 1])), ((q 1), .inl (k 3, 4, .inr (.inr (.inr (.inr (fun i => some (q (120 + i)))))))), ((q 120), .inr (7, [.ref (q 124), .int 0, .int (-1)])), ((q 121), .inr (7, [.ref (q 125), .int 0, .int (-1)])), ((q 122), .inr (7, [.ref (q 126), .int 0, .int (-1)])), ((q 124), .inl (k 2, 60, .inr (.inl (fun _ => 0)))), ((q 125), .inl (k 2, 60, .inr (.inl (fun _ => 0)))), ((q 126), .inl (k 2, 60, .inr (.inl (fun _ => 0))))] H := hP
          have hD : va_D A [((q 0), .inr (11, [.ref (q 1), .ref (q 2), .ref (q 3), .ref (q 4), .ref (q 5), .ref (q 6), .ref (q 7), .ref (q 8), .ref (q 9), .ref (q 10), .ref (q 11), .int 0, .int 0, .int 0, .long 0, .long 1])), ((q 1), .inl (k 3, 4, .inr (.inr (.inr (.inr (fun i => some (q (120 + i)))))))), ((q 120), .inr (7, [.ref (q 124), .int 0, .int (-1)])), ((q 121), .inr (7, [.ref (q 125), .int 0, .int (-1)])), ((q 122), .inr (7, [.ref (q 126), .int 0, .int (-1)])), ((q 124), .inl (k 2, 60, .inr (.inl (fun _ => 0)))), ((q 125), .inl (k 2, 60, .inr (.inl (fun _ => 0)))), ((q 126), .inl (k 2, 60, .inr (.inl (fun _ => 0))))] := hD
          refine W.eq (g2 := F0 m 41 ls []) rfl ?_
          refine lv_aload_n hx hb dX11_tray_41 rfl (lv_at hl 0 rfl) ?_
          refine CWV (As := []) (rest := []) (wc := [((q 0), .inr (11, [.ref (q 1), .ref (q 2), .ref (q 3), .ref (q 4), .ref (q 5), .ref (q 6), .ref (q 7), .ref (q 8), .ref (q 9), .ref (q 10), .ref (q 11), .int 0, .int 0, .int 0, .long 0, .long 1]))]) (wr := [((q 1), .inl (k 3, 4, .inr (.inr (.inr (.inr (fun i => some (q (120 + i)))))))), ((q 120), .inr (7, [.ref (q 124), .int 0, .int (-1)])), ((q 121), .inr (7, [.ref (q 125), .int 0, .int (-1)])), ((q 122), .inr (7, [.ref (q 126), .int 0, .int (-1)])), ((q 124), .inl (k 2, 60, .inr (.inl (fun _ => 0)))), ((q 125), .inl (k 2, 60, .inr (.inl (fun _ => 0)))), ((q 126), .inl (k 2, 60, .inr (.inl (fun _ => 0))))]) hx hb hml hown hts hKK hP hD hS hA (c_grant l D k (q 0) [.ref (q 1), .ref (q 2), .ref (q 3), .ref (q 4), .ref (q 5), .ref (q 6), .ref (q 7), .ref (q 8), .ref (q 9), .ref (q 10), .ref (q 11), .int 0, .int 0, .int 0, .long 0, .long 1] (Nat.le_of_ble_eq_true rfl)) ci_X11_grant qm_X11_114 ⟨Nat.le_of_ble_eq_true rfl, Nat.le_of_ble_eq_true rfl⟩ ⟨Nat.le_of_ble_eq_true rfl, Nat.le_of_ble_eq_true rfl⟩ [0] [1, 2, 3, 4, 5, 6, 7] rfl rfl rfl rfl rfl (by decide) 0 rfl rfl rfl hl.1 rfl (Nat.le_of_ble_eq_true rfl) dX11_tray_42 (fun u_25 H locs hφ hP hD hS => ?_)
          have hP : va_P D vwCl [((q 1), .inl (k 3, 4, .inr (.inr (.inr (.inr (fun i => some (q (120 + i)))))))), ((q 120), .inr (7, [.ref (q 124), .int 0, .int (-1)])), ((q 121), .inr (7, [.ref (q 125), .int 0, .int (-1)])), ((q 122), .inr (7, [.ref (q 126), .int 0, .int (-1)])), ((q 124), .inl (k 2, 60, .inr (.inl (fun _ => 0)))), ((q 125), .inl (k 2, 60, .inr (.inl (fun _ => 0)))), ((q 126), .inl (k 2, 60, .inr (.inl (fun _ => 0))))] H := hP
          have hD : va_D A [((q 1), .inl (k 3, 4, .inr (.inr (.inr (.inr (fun i => some (q (120 + i)))))))), ((q 120), .inr (7, [.ref (q 124), .int 0, .int (-1)])), ((q 121), .inr (7, [.ref (q 125), .int 0, .int (-1)])), ((q 122), .inr (7, [.ref (q 126), .int 0, .int (-1)])), ((q 124), .inl (k 2, 60, .inr (.inl (fun _ => 0)))), ((q 125), .inl (k 2, 60, .inr (.inl (fun _ => 0)))), ((q 126), .inl (k 2, 60, .inr (.inl (fun _ => 0))))] := hD
          refine W.eq (g2 := F0 m 45 ls [.int 1]) rfl ?_
          exact EWz hx hb hr hlocks hS () (by simp [trA, c_1, c_21, c_23]) rfl trivial nil_P nil_D dX11_tray_45
        ·
          refine lv_aload_n hx hb dX11_tray_24 rfl (lv_at hl 0 rfl) ?_
          refine lv_iconst (v := 1) hx hb dX11_tray_25 (by decide) ?_
          refine CWV (As := [.int 1]) (rest := []) (wc := [((q 0), .inr (11, [.ref (q 1), .ref (q 2), .ref (q 3), .ref (q 4), .ref (q 5), .ref (q 6), .ref (q 7), .ref (q 8), .ref (q 9), .ref (q 10), .ref (q 11), .int 0, .int 0, .int 0, .long 0, .long 1]))]) (wr := [((q 1), .inl (k 3, 4, .inr (.inr (.inr (.inr (fun i => some (q (120 + i)))))))), ((q 120), .inr (7, [.ref (q 124), .int 0, .int (-1)])), ((q 121), .inr (7, [.ref (q 125), .int 0, .int (-1)])), ((q 122), .inr (7, [.ref (q 126), .int 0, .int (-1)])), ((q 123), .inr (7, [.ref (q 127), .int 0, .int (-1)])), ((q 124), .inl (k 2, 60, .inr (.inl (fun _ => 0)))), ((q 125), .inl (k 2, 60, .inr (.inl (fun _ => 0)))), ((q 126), .inl (k 2, 60, .inr (.inl (fun _ => 0)))), ((q 127), .inl (k 2, 60, .inr (.inl (fun _ => 0))))]) hx hb hml hown hts hKK hP hD hS hA (c_deny l D k (q 0) [.ref (q 1), .ref (q 2), .ref (q 3), .ref (q 4), .ref (q 5), .ref (q 6), .ref (q 7), .ref (q 8), .ref (q 9), .ref (q 10), .ref (q 11), .int 0, .int 0, .int 0, .long 0, .long 1] (Nat.le_of_ble_eq_true rfl) 1) ci_X11_deny qm_X11_107 ⟨Nat.le_of_ble_eq_true rfl, Nat.le_of_ble_eq_true rfl⟩ ⟨Nat.le_of_ble_eq_true rfl, Nat.le_of_ble_eq_true rfl⟩ [0] [1, 2, 3, 4, 5, 6, 7, 8, 9] rfl rfl rfl rfl rfl (by decide) 0 rfl rfl rfl hl.1 rfl (Nat.le_of_ble_eq_true rfl) dX11_tray_26 (fun u_26 H locs hφ hP hD hS => ?_)
          have hP : va_P D vwCl [((q 1), .inl (k 3, 4, .inr (.inr (.inr (.inr (fun i => some (q (120 + i)))))))), ((q 120), .inr (7, [.ref (q 124), .int 0, .int (-1)])), ((q 121), .inr (7, [.ref (q 125), .int 0, .int (-1)])), ((q 122), .inr (7, [.ref (q 126), .int 0, .int (-1)])), ((q 123), .inr (7, [.ref (q 127), .int 0, .int (-1)])), ((q 124), .inl (k 2, 60, .inr (.inl (fun _ => 0)))), ((q 125), .inl (k 2, 60, .inr (.inl (fun _ => 0)))), ((q 126), .inl (k 2, 60, .inr (.inl (fun _ => 0)))), ((q 127), .inl (k 2, 60, .inr (.inl (fun _ => 0))))] H := hP
          have hD : va_D A [((q 1), .inl (k 3, 4, .inr (.inr (.inr (.inr (fun i => some (q (120 + i)))))))), ((q 120), .inr (7, [.ref (q 124), .int 0, .int (-1)])), ((q 121), .inr (7, [.ref (q 125), .int 0, .int (-1)])), ((q 122), .inr (7, [.ref (q 126), .int 0, .int (-1)])), ((q 123), .inr (7, [.ref (q 127), .int 0, .int (-1)])), ((q 124), .inl (k 2, 60, .inr (.inl (fun _ => 0)))), ((q 125), .inl (k 2, 60, .inr (.inl (fun _ => 0)))), ((q 126), .inl (k 2, 60, .inr (.inl (fun _ => 0)))), ((q 127), .inl (k 2, 60, .inr (.inl (fun _ => 0))))] := hD
          refine W.eq (g2 := F0 m 29 ls [.int 0]) rfl ?_
          exact EWz hx hb hr hlocks hS () (by simp [trA, c_1, c_21, c_23]) rfl trivial nil_P nil_D dX11_tray_29
set_option maxHeartbeats 4000000 in
set_option maxRecDepth 100000 in
theorem p_pour (l : Launch) (D : va_G) (k : Nat → ClassId) (q : Nat → Nat) (a : Int32) (b : Int32) (c1 : Int32) (d1 : Int32) (e1 : Int32) : WD (σ := Unit) l yX11_pour cX11_pour 8 (some .boolean) 8 0 0 D k [.ref (q 0), .int a, .int b, .int c1, .int d1, .int e1] [((q 0), .inr (11, [.ref (q 1), .ref (q 2), .ref (q 3), .ref (q 4), .ref (q 5), .ref (q 6), .ref (q 7), .ref (q 8), .ref (q 9), .ref (q 10), .ref (q 11), .int 0, .int 0, .int 0, .long 0, .long 1])), ((q 1), .inl (k 3, 4, .inr (.inr (.inr (.inr (fun i => some (q (120 + i)))))))), ((q 120), .inr (7, [.ref (q 124), .int 0, .int (-1)])), ((q 121), .inr (7, [.ref (q 125), .int 0, .int (-1)])), ((q 122), .inr (7, [.ref (q 126), .int 0, .int (-1)])), ((q 123), .inr (7, [.ref (q 127), .int 0, .int (-1)]))] (fun _ => some (.int 0)) (fun _ => True) (fun _ => []) := by
  refine MW (by decide) (Nat.le_of_ble_eq_true rfl) (fun p e s m below meth c ls A hx hb hml hr hlocks hin hts hown hKK hP hD hS hA hl => ?_)
  have hK := hKK.1
  have hl : lv_has ls 8 [(0, .ref (q 0)), (1, .int a), (2, .int b), (3, .int c1), (4, .int d1), (5, .int e1)] := hl
  refine lv_iload_n hx hb dX11_pour_0 rfl (lv_at hl 1 rfl) ?_
  refine CRS (As := [.int a]) (rest := []) hx hb hml hown hts hKK (hP.sub (ws' := []) [] rfl) (c_isTray l D k a) ci_X11_isTray qm_X11_99 ⟨Nat.le_of_ble_eq_true rfl, Nat.le_of_ble_eq_true rfl⟩ ⟨Nat.le_of_ble_eq_true rfl, Nat.le_of_ble_eq_true rfl⟩ rfl hl.1 rfl (Nat.le_of_ble_eq_true rfl) dX11_pour_1 ?_
  refine lv_if_eq (tgt := 28) hx hb dX11_pour_4 (by decide) (fun c_1 => ?_) (fun c_1 => ?_)
  ·
    refine lv_aload_n hx hb dX11_pour_28 rfl (lv_at hl 0 rfl) ?_
    refine lv_iconst (v := 1) hx hb dX11_pour_29 (by decide) ?_
    refine CWV (As := [.int 1]) (rest := []) (wc := [((q 0), .inr (11, [.ref (q 1), .ref (q 2), .ref (q 3), .ref (q 4), .ref (q 5), .ref (q 6), .ref (q 7), .ref (q 8), .ref (q 9), .ref (q 10), .ref (q 11), .int 0, .int 0, .int 0, .long 0, .long 1]))]) (wr := [((q 1), .inl (k 3, 4, .inr (.inr (.inr (.inr (fun i => some (q (120 + i)))))))), ((q 120), .inr (7, [.ref (q 124), .int 0, .int (-1)])), ((q 121), .inr (7, [.ref (q 125), .int 0, .int (-1)])), ((q 122), .inr (7, [.ref (q 126), .int 0, .int (-1)])), ((q 123), .inr (7, [.ref (q 127), .int 0, .int (-1)]))]) hx hb hml hown hts hKK hP hD hS hA (c_deny l D k (q 0) [.ref (q 1), .ref (q 2), .ref (q 3), .ref (q 4), .ref (q 5), .ref (q 6), .ref (q 7), .ref (q 8), .ref (q 9), .ref (q 10), .ref (q 11), .int 0, .int 0, .int 0, .long 0, .long 1] (Nat.le_of_ble_eq_true rfl) 1) ci_X11_deny qm_X11_107 ⟨Nat.le_of_ble_eq_true rfl, Nat.le_of_ble_eq_true rfl⟩ ⟨Nat.le_of_ble_eq_true rfl, Nat.le_of_ble_eq_true rfl⟩ [0] [1, 2, 3, 4, 5] rfl rfl rfl rfl rfl (by decide) 0 rfl rfl rfl hl.1 rfl (Nat.le_of_ble_eq_true rfl) dX11_pour_30 (fun u_2 H locs hφ hP hD hS => ?_)
    have hP : va_P D vwCl [((q 1), .inl (k 3, 4, .inr (.inr (.inr (.inr (fun i => some (q (120 + i)))))))), ((q 120), .inr (7, [.ref (q 124), .int 0, .int (-1)])), ((q 121), .inr (7, [.ref (q 125), .int 0, .int (-1)])), ((q 122), .inr (7, [.ref (q 126), .int 0, .int (-1)])), ((q 123), .inr (7, [.ref (q 127), .int 0, .int (-1)]))] H := hP
    have hD : va_D A [((q 1), .inl (k 3, 4, .inr (.inr (.inr (.inr (fun i => some (q (120 + i)))))))), ((q 120), .inr (7, [.ref (q 124), .int 0, .int (-1)])), ((q 121), .inr (7, [.ref (q 125), .int 0, .int (-1)])), ((q 122), .inr (7, [.ref (q 126), .int 0, .int (-1)])), ((q 123), .inr (7, [.ref (q 127), .int 0, .int (-1)]))] := hD
    refine W.eq (g2 := F0 m 33 ls [.int 0]) rfl ?_
    exact EWz hx hb hr hlocks hS () rfl rfl trivial nil_P nil_D dX11_pour_33
  ·
    obtain rfl | rfl | rfl | rfl := bw4 c_1
    ·
      refine lv_iload_n hx hb dX11_pour_7 rfl (lv_at hl 3 rfl) ?_
      refine CRS (As := [.int c1]) (rest := []) hx hb hml hown hts hKK (hP.sub (ws' := []) [] rfl) (c_isTray l D k c1) ci_X11_isTray qm_X11_99 ⟨Nat.le_of_ble_eq_true rfl, Nat.le_of_ble_eq_true rfl⟩ ⟨Nat.le_of_ble_eq_true rfl, Nat.le_of_ble_eq_true rfl⟩ rfl hl.1 rfl (Nat.le_of_ble_eq_true rfl) dX11_pour_8 ?_
      refine lv_if_eq (tgt := 28) hx hb dX11_pour_11 (by decide) (fun c_3 => ?_) (fun c_3 => ?_)
      ·
        refine lv_aload_n hx hb dX11_pour_28 rfl (lv_at hl 0 rfl) ?_
        refine lv_iconst (v := 1) hx hb dX11_pour_29 (by decide) ?_
        refine CWV (As := [.int 1]) (rest := []) (wc := [((q 0), .inr (11, [.ref (q 1), .ref (q 2), .ref (q 3), .ref (q 4), .ref (q 5), .ref (q 6), .ref (q 7), .ref (q 8), .ref (q 9), .ref (q 10), .ref (q 11), .int 0, .int 0, .int 0, .long 0, .long 1]))]) (wr := [((q 1), .inl (k 3, 4, .inr (.inr (.inr (.inr (fun i => some (q (120 + i)))))))), ((q 120), .inr (7, [.ref (q 124), .int 0, .int (-1)])), ((q 121), .inr (7, [.ref (q 125), .int 0, .int (-1)])), ((q 122), .inr (7, [.ref (q 126), .int 0, .int (-1)])), ((q 123), .inr (7, [.ref (q 127), .int 0, .int (-1)]))]) hx hb hml hown hts hKK hP hD hS hA (c_deny l D k (q 0) [.ref (q 1), .ref (q 2), .ref (q 3), .ref (q 4), .ref (q 5), .ref (q 6), .ref (q 7), .ref (q 8), .ref (q 9), .ref (q 10), .ref (q 11), .int 0, .int 0, .int 0, .long 0, .long 1] (Nat.le_of_ble_eq_true rfl) 1) ci_X11_deny qm_X11_107 ⟨Nat.le_of_ble_eq_true rfl, Nat.le_of_ble_eq_true rfl⟩ ⟨Nat.le_of_ble_eq_true rfl, Nat.le_of_ble_eq_true rfl⟩ [0] [1, 2, 3, 4, 5] rfl rfl rfl rfl rfl (by decide) 0 rfl rfl rfl hl.1 rfl (Nat.le_of_ble_eq_true rfl) dX11_pour_30 (fun u_4 H locs hφ hP hD hS => ?_)
        have hP : va_P D vwCl [((q 1), .inl (k 3, 4, .inr (.inr (.inr (.inr (fun i => some (q (120 + i)))))))), ((q 120), .inr (7, [.ref (q 124), .int 0, .int (-1)])), ((q 121), .inr (7, [.ref (q 125), .int 0, .int (-1)])), ((q 122), .inr (7, [.ref (q 126), .int 0, .int (-1)])), ((q 123), .inr (7, [.ref (q 127), .int 0, .int (-1)]))] H := hP
        have hD : va_D A [((q 1), .inl (k 3, 4, .inr (.inr (.inr (.inr (fun i => some (q (120 + i)))))))), ((q 120), .inr (7, [.ref (q 124), .int 0, .int (-1)])), ((q 121), .inr (7, [.ref (q 125), .int 0, .int (-1)])), ((q 122), .inr (7, [.ref (q 126), .int 0, .int (-1)])), ((q 123), .inr (7, [.ref (q 127), .int 0, .int (-1)]))] := hD
        refine W.eq (g2 := F0 m 33 ls [.int 0]) rfl ?_
        exact EWz hx hb hr hlocks hS () rfl rfl trivial nil_P nil_D dX11_pour_33
      ·
        obtain rfl | rfl | rfl | rfl := bw4 c_3
        ·
          refine lv_iload_n hx hb dX11_pour_14 rfl (lv_at hl 2 rfl) ?_
          refine lv_if_lt (tgt := 28) hx hb dX11_pour_15 (by decide) (fun c_5 => ?_) (fun c_5 => ?_)
          ·
            refine lv_aload_n hx hb dX11_pour_28 rfl (lv_at hl 0 rfl) ?_
            refine lv_iconst (v := 1) hx hb dX11_pour_29 (by decide) ?_
            refine CWV (As := [.int 1]) (rest := []) (wc := [((q 0), .inr (11, [.ref (q 1), .ref (q 2), .ref (q 3), .ref (q 4), .ref (q 5), .ref (q 6), .ref (q 7), .ref (q 8), .ref (q 9), .ref (q 10), .ref (q 11), .int 0, .int 0, .int 0, .long 0, .long 1]))]) (wr := [((q 1), .inl (k 3, 4, .inr (.inr (.inr (.inr (fun i => some (q (120 + i)))))))), ((q 120), .inr (7, [.ref (q 124), .int 0, .int (-1)])), ((q 121), .inr (7, [.ref (q 125), .int 0, .int (-1)])), ((q 122), .inr (7, [.ref (q 126), .int 0, .int (-1)])), ((q 123), .inr (7, [.ref (q 127), .int 0, .int (-1)]))]) hx hb hml hown hts hKK hP hD hS hA (c_deny l D k (q 0) [.ref (q 1), .ref (q 2), .ref (q 3), .ref (q 4), .ref (q 5), .ref (q 6), .ref (q 7), .ref (q 8), .ref (q 9), .ref (q 10), .ref (q 11), .int 0, .int 0, .int 0, .long 0, .long 1] (Nat.le_of_ble_eq_true rfl) 1) ci_X11_deny qm_X11_107 ⟨Nat.le_of_ble_eq_true rfl, Nat.le_of_ble_eq_true rfl⟩ ⟨Nat.le_of_ble_eq_true rfl, Nat.le_of_ble_eq_true rfl⟩ [0] [1, 2, 3, 4, 5] rfl rfl rfl rfl rfl (by decide) 0 rfl rfl rfl hl.1 rfl (Nat.le_of_ble_eq_true rfl) dX11_pour_30 (fun u_6 H locs hφ hP hD hS => ?_)
            have hP : va_P D vwCl [((q 1), .inl (k 3, 4, .inr (.inr (.inr (.inr (fun i => some (q (120 + i)))))))), ((q 120), .inr (7, [.ref (q 124), .int 0, .int (-1)])), ((q 121), .inr (7, [.ref (q 125), .int 0, .int (-1)])), ((q 122), .inr (7, [.ref (q 126), .int 0, .int (-1)])), ((q 123), .inr (7, [.ref (q 127), .int 0, .int (-1)]))] H := hP
            have hD : va_D A [((q 1), .inl (k 3, 4, .inr (.inr (.inr (.inr (fun i => some (q (120 + i)))))))), ((q 120), .inr (7, [.ref (q 124), .int 0, .int (-1)])), ((q 121), .inr (7, [.ref (q 125), .int 0, .int (-1)])), ((q 122), .inr (7, [.ref (q 126), .int 0, .int (-1)])), ((q 123), .inr (7, [.ref (q 127), .int 0, .int (-1)]))] := hD
            refine W.eq (g2 := F0 m 33 ls [.int 0]) rfl ?_
            exact EWz hx hb hr hlocks hS () rfl rfl trivial nil_P nil_D dX11_pour_33
          ·
            refine lv_iload hx hb dX11_pour_18 (lv_at hl 4 rfl) ?_
            refine lv_if_lt (tgt := 28) hx hb dX11_pour_20 (by decide) (fun c_7 => ?_) (fun c_7 => ?_)
            ·
              refine lv_aload_n hx hb dX11_pour_28 rfl (lv_at hl 0 rfl) ?_
              refine lv_iconst (v := 1) hx hb dX11_pour_29 (by decide) ?_
              refine CWV (As := [.int 1]) (rest := []) (wc := [((q 0), .inr (11, [.ref (q 1), .ref (q 2), .ref (q 3), .ref (q 4), .ref (q 5), .ref (q 6), .ref (q 7), .ref (q 8), .ref (q 9), .ref (q 10), .ref (q 11), .int 0, .int 0, .int 0, .long 0, .long 1]))]) (wr := [((q 1), .inl (k 3, 4, .inr (.inr (.inr (.inr (fun i => some (q (120 + i)))))))), ((q 120), .inr (7, [.ref (q 124), .int 0, .int (-1)])), ((q 121), .inr (7, [.ref (q 125), .int 0, .int (-1)])), ((q 122), .inr (7, [.ref (q 126), .int 0, .int (-1)])), ((q 123), .inr (7, [.ref (q 127), .int 0, .int (-1)]))]) hx hb hml hown hts hKK hP hD hS hA (c_deny l D k (q 0) [.ref (q 1), .ref (q 2), .ref (q 3), .ref (q 4), .ref (q 5), .ref (q 6), .ref (q 7), .ref (q 8), .ref (q 9), .ref (q 10), .ref (q 11), .int 0, .int 0, .int 0, .long 0, .long 1] (Nat.le_of_ble_eq_true rfl) 1) ci_X11_deny qm_X11_107 ⟨Nat.le_of_ble_eq_true rfl, Nat.le_of_ble_eq_true rfl⟩ ⟨Nat.le_of_ble_eq_true rfl, Nat.le_of_ble_eq_true rfl⟩ [0] [1, 2, 3, 4, 5] rfl rfl rfl rfl rfl (by decide) 0 rfl rfl rfl hl.1 rfl (Nat.le_of_ble_eq_true rfl) dX11_pour_30 (fun u_8 H locs hφ hP hD hS => ?_)
              have hP : va_P D vwCl [((q 1), .inl (k 3, 4, .inr (.inr (.inr (.inr (fun i => some (q (120 + i)))))))), ((q 120), .inr (7, [.ref (q 124), .int 0, .int (-1)])), ((q 121), .inr (7, [.ref (q 125), .int 0, .int (-1)])), ((q 122), .inr (7, [.ref (q 126), .int 0, .int (-1)])), ((q 123), .inr (7, [.ref (q 127), .int 0, .int (-1)]))] H := hP
              have hD : va_D A [((q 1), .inl (k 3, 4, .inr (.inr (.inr (.inr (fun i => some (q (120 + i)))))))), ((q 120), .inr (7, [.ref (q 124), .int 0, .int (-1)])), ((q 121), .inr (7, [.ref (q 125), .int 0, .int (-1)])), ((q 122), .inr (7, [.ref (q 126), .int 0, .int (-1)])), ((q 123), .inr (7, [.ref (q 127), .int 0, .int (-1)]))] := hD
              refine W.eq (g2 := F0 m 33 ls [.int 0]) rfl ?_
              exact EWz hx hb hr hlocks hS () rfl rfl trivial nil_P nil_D dX11_pour_33
            ·
              refine lv_iload hx hb dX11_pour_23 (lv_at hl 5 rfl) ?_
              refine lv_if_ge (tgt := 34) hx hb dX11_pour_25 (by decide) (fun c_9 => ?_) (fun c_9 => ?_)
              ·
                refine lv_aload_n hx hb dX11_pour_34 rfl (lv_at hl 0 rfl) ?_
                refine va_get (D := D) (ci := 11) (v := .ref (q 1)) (C := RX11) (T := TX11) (N := 16) hx hb hts iX11 hown hK hP 0 rfl rfl 0 (by decide) (hts _ qf_X11_11) (fun _ h => h) rfl dX11_pour_35 ?_
                refine lv_iload_n hx hb dX11_pour_38 rfl (lv_at hl 1 rfl) ?_
                refine va_aldq hx hb hK hP 1 3 rfl rfl (xin 0 4 rfl (by decide) (by decide)) dX11_pour_39 ?_
                refine W.eq (g2 := F0 m 40 ls [.ref (q 120)]) rfl ?_
                refine lv_astore (lv' := [(6, .ref (q 120)), (0, .ref (q 0)), (1, .int 0), (2, .int b), (3, .int 0), (4, .int d1), (5, .int e1)]) hx hb dX11_pour_40 hl (by decide) rfl (fun ls hl => ?_)
                refine lv_aload_n hx hb dX11_pour_42 rfl (lv_at hl 1 rfl) ?_
                refine va_get (D := D) (ci := 11) (v := .ref (q 1)) (C := RX11) (T := TX11) (N := 16) hx hb hts iX11 hown hK hP 0 rfl rfl 0 (by decide) (hts _ qf_X11_11) (fun _ h => h) rfl dX11_pour_43 ?_
                refine lv_iload_n hx hb dX11_pour_46 rfl (lv_at hl 4 rfl) ?_
                refine va_aldq hx hb hK hP 1 3 rfl rfl (xin 0 4 rfl (by decide) (by decide)) dX11_pour_47 ?_
                refine W.eq (g2 := F0 m 48 ls [.ref (q 120)]) rfl ?_
                refine lv_astore (lv' := [(7, .ref (q 120)), (6, .ref (q 120)), (0, .ref (q 0)), (1, .int 0), (2, .int b), (3, .int 0), (4, .int d1), (5, .int e1)]) hx hb dX11_pour_48 hl (by decide) rfl (fun ls hl => ?_)
                refine lv_aload hx hb dX11_pour_50 (lv_at hl 1 rfl) ?_
                refine CRV (As := []) (rest := []) hx hb hml hown hts hKK (hP.sub (ws' := [((q 120), .inr (7, [.ref (q 124), .int 0, .int (-1)]))]) [2] rfl) (c_isMissing l D k (q 120) [.ref (q 124), .int 0, .int (-1)] rfl) ci_X7_isMissing qm_X11_134 ⟨Nat.le_of_ble_eq_true rfl, Nat.le_of_ble_eq_true rfl⟩ ⟨Nat.le_of_ble_eq_true rfl, Nat.le_of_ble_eq_true rfl⟩ 0 rfl rfl rfl hl.1 rfl (Nat.le_of_ble_eq_true rfl) dX11_pour_52 ?_
                refine lv_if_ne (tgt := 66) hx hb dX11_pour_55 (by decide) (fun _ => ?_) (fun c => absurd c (by decide))
                refine lv_aload_n hx hb dX11_pour_66 rfl (lv_at hl 2 rfl) ?_
                refine lv_iconst (v := 2) hx hb dX11_pour_67 (by decide) ?_
                refine CWV (As := [.int 2]) (rest := []) (wc := [((q 0), .inr (11, [.ref (q 1), .ref (q 2), .ref (q 3), .ref (q 4), .ref (q 5), .ref (q 6), .ref (q 7), .ref (q 8), .ref (q 9), .ref (q 10), .ref (q 11), .int 0, .int 0, .int 0, .long 0, .long 1]))]) (wr := [((q 1), .inl (k 3, 4, .inr (.inr (.inr (.inr (fun i => some (q (120 + i)))))))), ((q 120), .inr (7, [.ref (q 124), .int 0, .int (-1)])), ((q 121), .inr (7, [.ref (q 125), .int 0, .int (-1)])), ((q 122), .inr (7, [.ref (q 126), .int 0, .int (-1)])), ((q 123), .inr (7, [.ref (q 127), .int 0, .int (-1)]))]) hx hb hml hown hts hKK hP hD hS hA (c_deny l D k (q 0) [.ref (q 1), .ref (q 2), .ref (q 3), .ref (q 4), .ref (q 5), .ref (q 6), .ref (q 7), .ref (q 8), .ref (q 9), .ref (q 10), .ref (q 11), .int 0, .int 0, .int 0, .long 0, .long 1] (Nat.le_of_ble_eq_true rfl) 2) ci_X11_deny qm_X11_107 ⟨Nat.le_of_ble_eq_true rfl, Nat.le_of_ble_eq_true rfl⟩ ⟨Nat.le_of_ble_eq_true rfl, Nat.le_of_ble_eq_true rfl⟩ [0] [1, 2, 3, 4, 5] rfl rfl rfl rfl rfl (by decide) 0 rfl rfl rfl hl.1 rfl (Nat.le_of_ble_eq_true rfl) dX11_pour_68 (fun u_10 H locs hφ hP hD hS => ?_)
                have hP : va_P D vwCl [((q 1), .inl (k 3, 4, .inr (.inr (.inr (.inr (fun i => some (q (120 + i)))))))), ((q 120), .inr (7, [.ref (q 124), .int 0, .int (-1)])), ((q 121), .inr (7, [.ref (q 125), .int 0, .int (-1)])), ((q 122), .inr (7, [.ref (q 126), .int 0, .int (-1)])), ((q 123), .inr (7, [.ref (q 127), .int 0, .int (-1)]))] H := hP
                have hD : va_D A [((q 1), .inl (k 3, 4, .inr (.inr (.inr (.inr (fun i => some (q (120 + i)))))))), ((q 120), .inr (7, [.ref (q 124), .int 0, .int (-1)])), ((q 121), .inr (7, [.ref (q 125), .int 0, .int (-1)])), ((q 122), .inr (7, [.ref (q 126), .int 0, .int (-1)])), ((q 123), .inr (7, [.ref (q 127), .int 0, .int (-1)]))] := hD
                refine W.eq (g2 := F0 m 71 ls [.int 0]) rfl ?_
                exact EWz hx hb hr hlocks hS () rfl rfl trivial nil_P nil_D dX11_pour_71
              ·
                refine lv_aload_n hx hb dX11_pour_28 rfl (lv_at hl 0 rfl) ?_
                refine lv_iconst (v := 1) hx hb dX11_pour_29 (by decide) ?_
                refine CWV (As := [.int 1]) (rest := []) (wc := [((q 0), .inr (11, [.ref (q 1), .ref (q 2), .ref (q 3), .ref (q 4), .ref (q 5), .ref (q 6), .ref (q 7), .ref (q 8), .ref (q 9), .ref (q 10), .ref (q 11), .int 0, .int 0, .int 0, .long 0, .long 1]))]) (wr := [((q 1), .inl (k 3, 4, .inr (.inr (.inr (.inr (fun i => some (q (120 + i)))))))), ((q 120), .inr (7, [.ref (q 124), .int 0, .int (-1)])), ((q 121), .inr (7, [.ref (q 125), .int 0, .int (-1)])), ((q 122), .inr (7, [.ref (q 126), .int 0, .int (-1)])), ((q 123), .inr (7, [.ref (q 127), .int 0, .int (-1)]))]) hx hb hml hown hts hKK hP hD hS hA (c_deny l D k (q 0) [.ref (q 1), .ref (q 2), .ref (q 3), .ref (q 4), .ref (q 5), .ref (q 6), .ref (q 7), .ref (q 8), .ref (q 9), .ref (q 10), .ref (q 11), .int 0, .int 0, .int 0, .long 0, .long 1] (Nat.le_of_ble_eq_true rfl) 1) ci_X11_deny qm_X11_107 ⟨Nat.le_of_ble_eq_true rfl, Nat.le_of_ble_eq_true rfl⟩ ⟨Nat.le_of_ble_eq_true rfl, Nat.le_of_ble_eq_true rfl⟩ [0] [1, 2, 3, 4, 5] rfl rfl rfl rfl rfl (by decide) 0 rfl rfl rfl hl.1 rfl (Nat.le_of_ble_eq_true rfl) dX11_pour_30 (fun u_11 H locs hφ hP hD hS => ?_)
                have hP : va_P D vwCl [((q 1), .inl (k 3, 4, .inr (.inr (.inr (.inr (fun i => some (q (120 + i)))))))), ((q 120), .inr (7, [.ref (q 124), .int 0, .int (-1)])), ((q 121), .inr (7, [.ref (q 125), .int 0, .int (-1)])), ((q 122), .inr (7, [.ref (q 126), .int 0, .int (-1)])), ((q 123), .inr (7, [.ref (q 127), .int 0, .int (-1)]))] H := hP
                have hD : va_D A [((q 1), .inl (k 3, 4, .inr (.inr (.inr (.inr (fun i => some (q (120 + i)))))))), ((q 120), .inr (7, [.ref (q 124), .int 0, .int (-1)])), ((q 121), .inr (7, [.ref (q 125), .int 0, .int (-1)])), ((q 122), .inr (7, [.ref (q 126), .int 0, .int (-1)])), ((q 123), .inr (7, [.ref (q 127), .int 0, .int (-1)]))] := hD
                refine W.eq (g2 := F0 m 33 ls [.int 0]) rfl ?_
                exact EWz hx hb hr hlocks hS () rfl rfl trivial nil_P nil_D dX11_pour_33
        ·
          refine lv_iload_n hx hb dX11_pour_14 rfl (lv_at hl 2 rfl) ?_
          refine lv_if_lt (tgt := 28) hx hb dX11_pour_15 (by decide) (fun c_12 => ?_) (fun c_12 => ?_)
          ·
            refine lv_aload_n hx hb dX11_pour_28 rfl (lv_at hl 0 rfl) ?_
            refine lv_iconst (v := 1) hx hb dX11_pour_29 (by decide) ?_
            refine CWV (As := [.int 1]) (rest := []) (wc := [((q 0), .inr (11, [.ref (q 1), .ref (q 2), .ref (q 3), .ref (q 4), .ref (q 5), .ref (q 6), .ref (q 7), .ref (q 8), .ref (q 9), .ref (q 10), .ref (q 11), .int 0, .int 0, .int 0, .long 0, .long 1]))]) (wr := [((q 1), .inl (k 3, 4, .inr (.inr (.inr (.inr (fun i => some (q (120 + i)))))))), ((q 120), .inr (7, [.ref (q 124), .int 0, .int (-1)])), ((q 121), .inr (7, [.ref (q 125), .int 0, .int (-1)])), ((q 122), .inr (7, [.ref (q 126), .int 0, .int (-1)])), ((q 123), .inr (7, [.ref (q 127), .int 0, .int (-1)]))]) hx hb hml hown hts hKK hP hD hS hA (c_deny l D k (q 0) [.ref (q 1), .ref (q 2), .ref (q 3), .ref (q 4), .ref (q 5), .ref (q 6), .ref (q 7), .ref (q 8), .ref (q 9), .ref (q 10), .ref (q 11), .int 0, .int 0, .int 0, .long 0, .long 1] (Nat.le_of_ble_eq_true rfl) 1) ci_X11_deny qm_X11_107 ⟨Nat.le_of_ble_eq_true rfl, Nat.le_of_ble_eq_true rfl⟩ ⟨Nat.le_of_ble_eq_true rfl, Nat.le_of_ble_eq_true rfl⟩ [0] [1, 2, 3, 4, 5] rfl rfl rfl rfl rfl (by decide) 0 rfl rfl rfl hl.1 rfl (Nat.le_of_ble_eq_true rfl) dX11_pour_30 (fun u_13 H locs hφ hP hD hS => ?_)
            have hP : va_P D vwCl [((q 1), .inl (k 3, 4, .inr (.inr (.inr (.inr (fun i => some (q (120 + i)))))))), ((q 120), .inr (7, [.ref (q 124), .int 0, .int (-1)])), ((q 121), .inr (7, [.ref (q 125), .int 0, .int (-1)])), ((q 122), .inr (7, [.ref (q 126), .int 0, .int (-1)])), ((q 123), .inr (7, [.ref (q 127), .int 0, .int (-1)]))] H := hP
            have hD : va_D A [((q 1), .inl (k 3, 4, .inr (.inr (.inr (.inr (fun i => some (q (120 + i)))))))), ((q 120), .inr (7, [.ref (q 124), .int 0, .int (-1)])), ((q 121), .inr (7, [.ref (q 125), .int 0, .int (-1)])), ((q 122), .inr (7, [.ref (q 126), .int 0, .int (-1)])), ((q 123), .inr (7, [.ref (q 127), .int 0, .int (-1)]))] := hD
            refine W.eq (g2 := F0 m 33 ls [.int 0]) rfl ?_
            exact EWz hx hb hr hlocks hS () rfl rfl trivial nil_P nil_D dX11_pour_33
          ·
            refine lv_iload hx hb dX11_pour_18 (lv_at hl 4 rfl) ?_
            refine lv_if_lt (tgt := 28) hx hb dX11_pour_20 (by decide) (fun c_14 => ?_) (fun c_14 => ?_)
            ·
              refine lv_aload_n hx hb dX11_pour_28 rfl (lv_at hl 0 rfl) ?_
              refine lv_iconst (v := 1) hx hb dX11_pour_29 (by decide) ?_
              refine CWV (As := [.int 1]) (rest := []) (wc := [((q 0), .inr (11, [.ref (q 1), .ref (q 2), .ref (q 3), .ref (q 4), .ref (q 5), .ref (q 6), .ref (q 7), .ref (q 8), .ref (q 9), .ref (q 10), .ref (q 11), .int 0, .int 0, .int 0, .long 0, .long 1]))]) (wr := [((q 1), .inl (k 3, 4, .inr (.inr (.inr (.inr (fun i => some (q (120 + i)))))))), ((q 120), .inr (7, [.ref (q 124), .int 0, .int (-1)])), ((q 121), .inr (7, [.ref (q 125), .int 0, .int (-1)])), ((q 122), .inr (7, [.ref (q 126), .int 0, .int (-1)])), ((q 123), .inr (7, [.ref (q 127), .int 0, .int (-1)]))]) hx hb hml hown hts hKK hP hD hS hA (c_deny l D k (q 0) [.ref (q 1), .ref (q 2), .ref (q 3), .ref (q 4), .ref (q 5), .ref (q 6), .ref (q 7), .ref (q 8), .ref (q 9), .ref (q 10), .ref (q 11), .int 0, .int 0, .int 0, .long 0, .long 1] (Nat.le_of_ble_eq_true rfl) 1) ci_X11_deny qm_X11_107 ⟨Nat.le_of_ble_eq_true rfl, Nat.le_of_ble_eq_true rfl⟩ ⟨Nat.le_of_ble_eq_true rfl, Nat.le_of_ble_eq_true rfl⟩ [0] [1, 2, 3, 4, 5] rfl rfl rfl rfl rfl (by decide) 0 rfl rfl rfl hl.1 rfl (Nat.le_of_ble_eq_true rfl) dX11_pour_30 (fun u_15 H locs hφ hP hD hS => ?_)
              have hP : va_P D vwCl [((q 1), .inl (k 3, 4, .inr (.inr (.inr (.inr (fun i => some (q (120 + i)))))))), ((q 120), .inr (7, [.ref (q 124), .int 0, .int (-1)])), ((q 121), .inr (7, [.ref (q 125), .int 0, .int (-1)])), ((q 122), .inr (7, [.ref (q 126), .int 0, .int (-1)])), ((q 123), .inr (7, [.ref (q 127), .int 0, .int (-1)]))] H := hP
              have hD : va_D A [((q 1), .inl (k 3, 4, .inr (.inr (.inr (.inr (fun i => some (q (120 + i)))))))), ((q 120), .inr (7, [.ref (q 124), .int 0, .int (-1)])), ((q 121), .inr (7, [.ref (q 125), .int 0, .int (-1)])), ((q 122), .inr (7, [.ref (q 126), .int 0, .int (-1)])), ((q 123), .inr (7, [.ref (q 127), .int 0, .int (-1)]))] := hD
              refine W.eq (g2 := F0 m 33 ls [.int 0]) rfl ?_
              exact EWz hx hb hr hlocks hS () rfl rfl trivial nil_P nil_D dX11_pour_33
            ·
              refine lv_iload hx hb dX11_pour_23 (lv_at hl 5 rfl) ?_
              refine lv_if_ge (tgt := 34) hx hb dX11_pour_25 (by decide) (fun c_16 => ?_) (fun c_16 => ?_)
              ·
                refine lv_aload_n hx hb dX11_pour_34 rfl (lv_at hl 0 rfl) ?_
                refine va_get (D := D) (ci := 11) (v := .ref (q 1)) (C := RX11) (T := TX11) (N := 16) hx hb hts iX11 hown hK hP 0 rfl rfl 0 (by decide) (hts _ qf_X11_11) (fun _ h => h) rfl dX11_pour_35 ?_
                refine lv_iload_n hx hb dX11_pour_38 rfl (lv_at hl 1 rfl) ?_
                refine va_aldq hx hb hK hP 1 3 rfl rfl (xin 0 4 rfl (by decide) (by decide)) dX11_pour_39 ?_
                refine W.eq (g2 := F0 m 40 ls [.ref (q 120)]) rfl ?_
                refine lv_astore (lv' := [(6, .ref (q 120)), (0, .ref (q 0)), (1, .int 0), (2, .int b), (3, .int 1), (4, .int d1), (5, .int e1)]) hx hb dX11_pour_40 hl (by decide) rfl (fun ls hl => ?_)
                refine lv_aload_n hx hb dX11_pour_42 rfl (lv_at hl 1 rfl) ?_
                refine va_get (D := D) (ci := 11) (v := .ref (q 1)) (C := RX11) (T := TX11) (N := 16) hx hb hts iX11 hown hK hP 0 rfl rfl 0 (by decide) (hts _ qf_X11_11) (fun _ h => h) rfl dX11_pour_43 ?_
                refine lv_iload_n hx hb dX11_pour_46 rfl (lv_at hl 4 rfl) ?_
                refine va_aldq hx hb hK hP 1 3 rfl rfl (xin 1 4 rfl (by decide) (by decide)) dX11_pour_47 ?_
                refine W.eq (g2 := F0 m 48 ls [.ref (q 121)]) rfl ?_
                refine lv_astore (lv' := [(7, .ref (q 121)), (6, .ref (q 120)), (0, .ref (q 0)), (1, .int 0), (2, .int b), (3, .int 1), (4, .int d1), (5, .int e1)]) hx hb dX11_pour_48 hl (by decide) rfl (fun ls hl => ?_)
                refine lv_aload hx hb dX11_pour_50 (lv_at hl 1 rfl) ?_
                refine CRV (As := []) (rest := []) hx hb hml hown hts hKK (hP.sub (ws' := [((q 120), .inr (7, [.ref (q 124), .int 0, .int (-1)]))]) [2] rfl) (c_isMissing l D k (q 120) [.ref (q 124), .int 0, .int (-1)] rfl) ci_X7_isMissing qm_X11_134 ⟨Nat.le_of_ble_eq_true rfl, Nat.le_of_ble_eq_true rfl⟩ ⟨Nat.le_of_ble_eq_true rfl, Nat.le_of_ble_eq_true rfl⟩ 0 rfl rfl rfl hl.1 rfl (Nat.le_of_ble_eq_true rfl) dX11_pour_52 ?_
                refine lv_if_ne (tgt := 66) hx hb dX11_pour_55 (by decide) (fun _ => ?_) (fun c => absurd c (by decide))
                refine lv_aload_n hx hb dX11_pour_66 rfl (lv_at hl 2 rfl) ?_
                refine lv_iconst (v := 2) hx hb dX11_pour_67 (by decide) ?_
                refine CWV (As := [.int 2]) (rest := []) (wc := [((q 0), .inr (11, [.ref (q 1), .ref (q 2), .ref (q 3), .ref (q 4), .ref (q 5), .ref (q 6), .ref (q 7), .ref (q 8), .ref (q 9), .ref (q 10), .ref (q 11), .int 0, .int 0, .int 0, .long 0, .long 1]))]) (wr := [((q 1), .inl (k 3, 4, .inr (.inr (.inr (.inr (fun i => some (q (120 + i)))))))), ((q 120), .inr (7, [.ref (q 124), .int 0, .int (-1)])), ((q 121), .inr (7, [.ref (q 125), .int 0, .int (-1)])), ((q 122), .inr (7, [.ref (q 126), .int 0, .int (-1)])), ((q 123), .inr (7, [.ref (q 127), .int 0, .int (-1)]))]) hx hb hml hown hts hKK hP hD hS hA (c_deny l D k (q 0) [.ref (q 1), .ref (q 2), .ref (q 3), .ref (q 4), .ref (q 5), .ref (q 6), .ref (q 7), .ref (q 8), .ref (q 9), .ref (q 10), .ref (q 11), .int 0, .int 0, .int 0, .long 0, .long 1] (Nat.le_of_ble_eq_true rfl) 2) ci_X11_deny qm_X11_107 ⟨Nat.le_of_ble_eq_true rfl, Nat.le_of_ble_eq_true rfl⟩ ⟨Nat.le_of_ble_eq_true rfl, Nat.le_of_ble_eq_true rfl⟩ [0] [1, 2, 3, 4, 5] rfl rfl rfl rfl rfl (by decide) 0 rfl rfl rfl hl.1 rfl (Nat.le_of_ble_eq_true rfl) dX11_pour_68 (fun u_17 H locs hφ hP hD hS => ?_)
                have hP : va_P D vwCl [((q 1), .inl (k 3, 4, .inr (.inr (.inr (.inr (fun i => some (q (120 + i)))))))), ((q 120), .inr (7, [.ref (q 124), .int 0, .int (-1)])), ((q 121), .inr (7, [.ref (q 125), .int 0, .int (-1)])), ((q 122), .inr (7, [.ref (q 126), .int 0, .int (-1)])), ((q 123), .inr (7, [.ref (q 127), .int 0, .int (-1)]))] H := hP
                have hD : va_D A [((q 1), .inl (k 3, 4, .inr (.inr (.inr (.inr (fun i => some (q (120 + i)))))))), ((q 120), .inr (7, [.ref (q 124), .int 0, .int (-1)])), ((q 121), .inr (7, [.ref (q 125), .int 0, .int (-1)])), ((q 122), .inr (7, [.ref (q 126), .int 0, .int (-1)])), ((q 123), .inr (7, [.ref (q 127), .int 0, .int (-1)]))] := hD
                refine W.eq (g2 := F0 m 71 ls [.int 0]) rfl ?_
                exact EWz hx hb hr hlocks hS () rfl rfl trivial nil_P nil_D dX11_pour_71
              ·
                refine lv_aload_n hx hb dX11_pour_28 rfl (lv_at hl 0 rfl) ?_
                refine lv_iconst (v := 1) hx hb dX11_pour_29 (by decide) ?_
                refine CWV (As := [.int 1]) (rest := []) (wc := [((q 0), .inr (11, [.ref (q 1), .ref (q 2), .ref (q 3), .ref (q 4), .ref (q 5), .ref (q 6), .ref (q 7), .ref (q 8), .ref (q 9), .ref (q 10), .ref (q 11), .int 0, .int 0, .int 0, .long 0, .long 1]))]) (wr := [((q 1), .inl (k 3, 4, .inr (.inr (.inr (.inr (fun i => some (q (120 + i)))))))), ((q 120), .inr (7, [.ref (q 124), .int 0, .int (-1)])), ((q 121), .inr (7, [.ref (q 125), .int 0, .int (-1)])), ((q 122), .inr (7, [.ref (q 126), .int 0, .int (-1)])), ((q 123), .inr (7, [.ref (q 127), .int 0, .int (-1)]))]) hx hb hml hown hts hKK hP hD hS hA (c_deny l D k (q 0) [.ref (q 1), .ref (q 2), .ref (q 3), .ref (q 4), .ref (q 5), .ref (q 6), .ref (q 7), .ref (q 8), .ref (q 9), .ref (q 10), .ref (q 11), .int 0, .int 0, .int 0, .long 0, .long 1] (Nat.le_of_ble_eq_true rfl) 1) ci_X11_deny qm_X11_107 ⟨Nat.le_of_ble_eq_true rfl, Nat.le_of_ble_eq_true rfl⟩ ⟨Nat.le_of_ble_eq_true rfl, Nat.le_of_ble_eq_true rfl⟩ [0] [1, 2, 3, 4, 5] rfl rfl rfl rfl rfl (by decide) 0 rfl rfl rfl hl.1 rfl (Nat.le_of_ble_eq_true rfl) dX11_pour_30 (fun u_18 H locs hφ hP hD hS => ?_)
                have hP : va_P D vwCl [((q 1), .inl (k 3, 4, .inr (.inr (.inr (.inr (fun i => some (q (120 + i)))))))), ((q 120), .inr (7, [.ref (q 124), .int 0, .int (-1)])), ((q 121), .inr (7, [.ref (q 125), .int 0, .int (-1)])), ((q 122), .inr (7, [.ref (q 126), .int 0, .int (-1)])), ((q 123), .inr (7, [.ref (q 127), .int 0, .int (-1)]))] H := hP
                have hD : va_D A [((q 1), .inl (k 3, 4, .inr (.inr (.inr (.inr (fun i => some (q (120 + i)))))))), ((q 120), .inr (7, [.ref (q 124), .int 0, .int (-1)])), ((q 121), .inr (7, [.ref (q 125), .int 0, .int (-1)])), ((q 122), .inr (7, [.ref (q 126), .int 0, .int (-1)])), ((q 123), .inr (7, [.ref (q 127), .int 0, .int (-1)]))] := hD
                refine W.eq (g2 := F0 m 33 ls [.int 0]) rfl ?_
                exact EWz hx hb hr hlocks hS () rfl rfl trivial nil_P nil_D dX11_pour_33
        ·
          refine lv_iload_n hx hb dX11_pour_14 rfl (lv_at hl 2 rfl) ?_
          refine lv_if_lt (tgt := 28) hx hb dX11_pour_15 (by decide) (fun c_19 => ?_) (fun c_19 => ?_)
          ·
            refine lv_aload_n hx hb dX11_pour_28 rfl (lv_at hl 0 rfl) ?_
            refine lv_iconst (v := 1) hx hb dX11_pour_29 (by decide) ?_
            refine CWV (As := [.int 1]) (rest := []) (wc := [((q 0), .inr (11, [.ref (q 1), .ref (q 2), .ref (q 3), .ref (q 4), .ref (q 5), .ref (q 6), .ref (q 7), .ref (q 8), .ref (q 9), .ref (q 10), .ref (q 11), .int 0, .int 0, .int 0, .long 0, .long 1]))]) (wr := [((q 1), .inl (k 3, 4, .inr (.inr (.inr (.inr (fun i => some (q (120 + i)))))))), ((q 120), .inr (7, [.ref (q 124), .int 0, .int (-1)])), ((q 121), .inr (7, [.ref (q 125), .int 0, .int (-1)])), ((q 122), .inr (7, [.ref (q 126), .int 0, .int (-1)])), ((q 123), .inr (7, [.ref (q 127), .int 0, .int (-1)]))]) hx hb hml hown hts hKK hP hD hS hA (c_deny l D k (q 0) [.ref (q 1), .ref (q 2), .ref (q 3), .ref (q 4), .ref (q 5), .ref (q 6), .ref (q 7), .ref (q 8), .ref (q 9), .ref (q 10), .ref (q 11), .int 0, .int 0, .int 0, .long 0, .long 1] (Nat.le_of_ble_eq_true rfl) 1) ci_X11_deny qm_X11_107 ⟨Nat.le_of_ble_eq_true rfl, Nat.le_of_ble_eq_true rfl⟩ ⟨Nat.le_of_ble_eq_true rfl, Nat.le_of_ble_eq_true rfl⟩ [0] [1, 2, 3, 4, 5] rfl rfl rfl rfl rfl (by decide) 0 rfl rfl rfl hl.1 rfl (Nat.le_of_ble_eq_true rfl) dX11_pour_30 (fun u_20 H locs hφ hP hD hS => ?_)
            have hP : va_P D vwCl [((q 1), .inl (k 3, 4, .inr (.inr (.inr (.inr (fun i => some (q (120 + i)))))))), ((q 120), .inr (7, [.ref (q 124), .int 0, .int (-1)])), ((q 121), .inr (7, [.ref (q 125), .int 0, .int (-1)])), ((q 122), .inr (7, [.ref (q 126), .int 0, .int (-1)])), ((q 123), .inr (7, [.ref (q 127), .int 0, .int (-1)]))] H := hP
            have hD : va_D A [((q 1), .inl (k 3, 4, .inr (.inr (.inr (.inr (fun i => some (q (120 + i)))))))), ((q 120), .inr (7, [.ref (q 124), .int 0, .int (-1)])), ((q 121), .inr (7, [.ref (q 125), .int 0, .int (-1)])), ((q 122), .inr (7, [.ref (q 126), .int 0, .int (-1)])), ((q 123), .inr (7, [.ref (q 127), .int 0, .int (-1)]))] := hD
            refine W.eq (g2 := F0 m 33 ls [.int 0]) rfl ?_
            exact EWz hx hb hr hlocks hS () rfl rfl trivial nil_P nil_D dX11_pour_33
          ·
            refine lv_iload hx hb dX11_pour_18 (lv_at hl 4 rfl) ?_
            refine lv_if_lt (tgt := 28) hx hb dX11_pour_20 (by decide) (fun c_21 => ?_) (fun c_21 => ?_)
            ·
              refine lv_aload_n hx hb dX11_pour_28 rfl (lv_at hl 0 rfl) ?_
              refine lv_iconst (v := 1) hx hb dX11_pour_29 (by decide) ?_
              refine CWV (As := [.int 1]) (rest := []) (wc := [((q 0), .inr (11, [.ref (q 1), .ref (q 2), .ref (q 3), .ref (q 4), .ref (q 5), .ref (q 6), .ref (q 7), .ref (q 8), .ref (q 9), .ref (q 10), .ref (q 11), .int 0, .int 0, .int 0, .long 0, .long 1]))]) (wr := [((q 1), .inl (k 3, 4, .inr (.inr (.inr (.inr (fun i => some (q (120 + i)))))))), ((q 120), .inr (7, [.ref (q 124), .int 0, .int (-1)])), ((q 121), .inr (7, [.ref (q 125), .int 0, .int (-1)])), ((q 122), .inr (7, [.ref (q 126), .int 0, .int (-1)])), ((q 123), .inr (7, [.ref (q 127), .int 0, .int (-1)]))]) hx hb hml hown hts hKK hP hD hS hA (c_deny l D k (q 0) [.ref (q 1), .ref (q 2), .ref (q 3), .ref (q 4), .ref (q 5), .ref (q 6), .ref (q 7), .ref (q 8), .ref (q 9), .ref (q 10), .ref (q 11), .int 0, .int 0, .int 0, .long 0, .long 1] (Nat.le_of_ble_eq_true rfl) 1) ci_X11_deny qm_X11_107 ⟨Nat.le_of_ble_eq_true rfl, Nat.le_of_ble_eq_true rfl⟩ ⟨Nat.le_of_ble_eq_true rfl, Nat.le_of_ble_eq_true rfl⟩ [0] [1, 2, 3, 4, 5] rfl rfl rfl rfl rfl (by decide) 0 rfl rfl rfl hl.1 rfl (Nat.le_of_ble_eq_true rfl) dX11_pour_30 (fun u_22 H locs hφ hP hD hS => ?_)
              have hP : va_P D vwCl [((q 1), .inl (k 3, 4, .inr (.inr (.inr (.inr (fun i => some (q (120 + i)))))))), ((q 120), .inr (7, [.ref (q 124), .int 0, .int (-1)])), ((q 121), .inr (7, [.ref (q 125), .int 0, .int (-1)])), ((q 122), .inr (7, [.ref (q 126), .int 0, .int (-1)])), ((q 123), .inr (7, [.ref (q 127), .int 0, .int (-1)]))] H := hP
              have hD : va_D A [((q 1), .inl (k 3, 4, .inr (.inr (.inr (.inr (fun i => some (q (120 + i)))))))), ((q 120), .inr (7, [.ref (q 124), .int 0, .int (-1)])), ((q 121), .inr (7, [.ref (q 125), .int 0, .int (-1)])), ((q 122), .inr (7, [.ref (q 126), .int 0, .int (-1)])), ((q 123), .inr (7, [.ref (q 127), .int 0, .int (-1)]))] := hD
              refine W.eq (g2 := F0 m 33 ls [.int 0]) rfl ?_
              exact EWz hx hb hr hlocks hS () rfl rfl trivial nil_P nil_D dX11_pour_33
            ·
              refine lv_iload hx hb dX11_pour_23 (lv_at hl 5 rfl) ?_
              refine lv_if_ge (tgt := 34) hx hb dX11_pour_25 (by decide) (fun c_23 => ?_) (fun c_23 => ?_)
              ·
                refine lv_aload_n hx hb dX11_pour_34 rfl (lv_at hl 0 rfl) ?_
                refine va_get (D := D) (ci := 11) (v := .ref (q 1)) (C := RX11) (T := TX11) (N := 16) hx hb hts iX11 hown hK hP 0 rfl rfl 0 (by decide) (hts _ qf_X11_11) (fun _ h => h) rfl dX11_pour_35 ?_
                refine lv_iload_n hx hb dX11_pour_38 rfl (lv_at hl 1 rfl) ?_
                refine va_aldq hx hb hK hP 1 3 rfl rfl (xin 0 4 rfl (by decide) (by decide)) dX11_pour_39 ?_
                refine W.eq (g2 := F0 m 40 ls [.ref (q 120)]) rfl ?_
                refine lv_astore (lv' := [(6, .ref (q 120)), (0, .ref (q 0)), (1, .int 0), (2, .int b), (3, .int 2), (4, .int d1), (5, .int e1)]) hx hb dX11_pour_40 hl (by decide) rfl (fun ls hl => ?_)
                refine lv_aload_n hx hb dX11_pour_42 rfl (lv_at hl 1 rfl) ?_
                refine va_get (D := D) (ci := 11) (v := .ref (q 1)) (C := RX11) (T := TX11) (N := 16) hx hb hts iX11 hown hK hP 0 rfl rfl 0 (by decide) (hts _ qf_X11_11) (fun _ h => h) rfl dX11_pour_43 ?_
                refine lv_iload_n hx hb dX11_pour_46 rfl (lv_at hl 4 rfl) ?_
                refine va_aldq hx hb hK hP 1 3 rfl rfl (xin 2 4 rfl (by decide) (by decide)) dX11_pour_47 ?_
                refine W.eq (g2 := F0 m 48 ls [.ref (q 122)]) rfl ?_
                refine lv_astore (lv' := [(7, .ref (q 122)), (6, .ref (q 120)), (0, .ref (q 0)), (1, .int 0), (2, .int b), (3, .int 2), (4, .int d1), (5, .int e1)]) hx hb dX11_pour_48 hl (by decide) rfl (fun ls hl => ?_)
                refine lv_aload hx hb dX11_pour_50 (lv_at hl 1 rfl) ?_
                refine CRV (As := []) (rest := []) hx hb hml hown hts hKK (hP.sub (ws' := [((q 120), .inr (7, [.ref (q 124), .int 0, .int (-1)]))]) [2] rfl) (c_isMissing l D k (q 120) [.ref (q 124), .int 0, .int (-1)] rfl) ci_X7_isMissing qm_X11_134 ⟨Nat.le_of_ble_eq_true rfl, Nat.le_of_ble_eq_true rfl⟩ ⟨Nat.le_of_ble_eq_true rfl, Nat.le_of_ble_eq_true rfl⟩ 0 rfl rfl rfl hl.1 rfl (Nat.le_of_ble_eq_true rfl) dX11_pour_52 ?_
                refine lv_if_ne (tgt := 66) hx hb dX11_pour_55 (by decide) (fun _ => ?_) (fun c => absurd c (by decide))
                refine lv_aload_n hx hb dX11_pour_66 rfl (lv_at hl 2 rfl) ?_
                refine lv_iconst (v := 2) hx hb dX11_pour_67 (by decide) ?_
                refine CWV (As := [.int 2]) (rest := []) (wc := [((q 0), .inr (11, [.ref (q 1), .ref (q 2), .ref (q 3), .ref (q 4), .ref (q 5), .ref (q 6), .ref (q 7), .ref (q 8), .ref (q 9), .ref (q 10), .ref (q 11), .int 0, .int 0, .int 0, .long 0, .long 1]))]) (wr := [((q 1), .inl (k 3, 4, .inr (.inr (.inr (.inr (fun i => some (q (120 + i)))))))), ((q 120), .inr (7, [.ref (q 124), .int 0, .int (-1)])), ((q 121), .inr (7, [.ref (q 125), .int 0, .int (-1)])), ((q 122), .inr (7, [.ref (q 126), .int 0, .int (-1)])), ((q 123), .inr (7, [.ref (q 127), .int 0, .int (-1)]))]) hx hb hml hown hts hKK hP hD hS hA (c_deny l D k (q 0) [.ref (q 1), .ref (q 2), .ref (q 3), .ref (q 4), .ref (q 5), .ref (q 6), .ref (q 7), .ref (q 8), .ref (q 9), .ref (q 10), .ref (q 11), .int 0, .int 0, .int 0, .long 0, .long 1] (Nat.le_of_ble_eq_true rfl) 2) ci_X11_deny qm_X11_107 ⟨Nat.le_of_ble_eq_true rfl, Nat.le_of_ble_eq_true rfl⟩ ⟨Nat.le_of_ble_eq_true rfl, Nat.le_of_ble_eq_true rfl⟩ [0] [1, 2, 3, 4, 5] rfl rfl rfl rfl rfl (by decide) 0 rfl rfl rfl hl.1 rfl (Nat.le_of_ble_eq_true rfl) dX11_pour_68 (fun u_24 H locs hφ hP hD hS => ?_)
                have hP : va_P D vwCl [((q 1), .inl (k 3, 4, .inr (.inr (.inr (.inr (fun i => some (q (120 + i)))))))), ((q 120), .inr (7, [.ref (q 124), .int 0, .int (-1)])), ((q 121), .inr (7, [.ref (q 125), .int 0, .int (-1)])), ((q 122), .inr (7, [.ref (q 126), .int 0, .int (-1)])), ((q 123), .inr (7, [.ref (q 127), .int 0, .int (-1)]))] H := hP
                have hD : va_D A [((q 1), .inl (k 3, 4, .inr (.inr (.inr (.inr (fun i => some (q (120 + i)))))))), ((q 120), .inr (7, [.ref (q 124), .int 0, .int (-1)])), ((q 121), .inr (7, [.ref (q 125), .int 0, .int (-1)])), ((q 122), .inr (7, [.ref (q 126), .int 0, .int (-1)])), ((q 123), .inr (7, [.ref (q 127), .int 0, .int (-1)]))] := hD
                refine W.eq (g2 := F0 m 71 ls [.int 0]) rfl ?_
                exact EWz hx hb hr hlocks hS () rfl rfl trivial nil_P nil_D dX11_pour_71
              ·
                refine lv_aload_n hx hb dX11_pour_28 rfl (lv_at hl 0 rfl) ?_
                refine lv_iconst (v := 1) hx hb dX11_pour_29 (by decide) ?_
                refine CWV (As := [.int 1]) (rest := []) (wc := [((q 0), .inr (11, [.ref (q 1), .ref (q 2), .ref (q 3), .ref (q 4), .ref (q 5), .ref (q 6), .ref (q 7), .ref (q 8), .ref (q 9), .ref (q 10), .ref (q 11), .int 0, .int 0, .int 0, .long 0, .long 1]))]) (wr := [((q 1), .inl (k 3, 4, .inr (.inr (.inr (.inr (fun i => some (q (120 + i)))))))), ((q 120), .inr (7, [.ref (q 124), .int 0, .int (-1)])), ((q 121), .inr (7, [.ref (q 125), .int 0, .int (-1)])), ((q 122), .inr (7, [.ref (q 126), .int 0, .int (-1)])), ((q 123), .inr (7, [.ref (q 127), .int 0, .int (-1)]))]) hx hb hml hown hts hKK hP hD hS hA (c_deny l D k (q 0) [.ref (q 1), .ref (q 2), .ref (q 3), .ref (q 4), .ref (q 5), .ref (q 6), .ref (q 7), .ref (q 8), .ref (q 9), .ref (q 10), .ref (q 11), .int 0, .int 0, .int 0, .long 0, .long 1] (Nat.le_of_ble_eq_true rfl) 1) ci_X11_deny qm_X11_107 ⟨Nat.le_of_ble_eq_true rfl, Nat.le_of_ble_eq_true rfl⟩ ⟨Nat.le_of_ble_eq_true rfl, Nat.le_of_ble_eq_true rfl⟩ [0] [1, 2, 3, 4, 5] rfl rfl rfl rfl rfl (by decide) 0 rfl rfl rfl hl.1 rfl (Nat.le_of_ble_eq_true rfl) dX11_pour_30 (fun u_25 H locs hφ hP hD hS => ?_)
                have hP : va_P D vwCl [((q 1), .inl (k 3, 4, .inr (.inr (.inr (.inr (fun i => some (q (120 + i)))))))), ((q 120), .inr (7, [.ref (q 124), .int 0, .int (-1)])), ((q 121), .inr (7, [.ref (q 125), .int 0, .int (-1)])), ((q 122), .inr (7, [.ref (q 126), .int 0, .int (-1)])), ((q 123), .inr (7, [.ref (q 127), .int 0, .int (-1)]))] H := hP
                have hD : va_D A [((q 1), .inl (k 3, 4, .inr (.inr (.inr (.inr (fun i => some (q (120 + i)))))))), ((q 120), .inr (7, [.ref (q 124), .int 0, .int (-1)])), ((q 121), .inr (7, [.ref (q 125), .int 0, .int (-1)])), ((q 122), .inr (7, [.ref (q 126), .int 0, .int (-1)])), ((q 123), .inr (7, [.ref (q 127), .int 0, .int (-1)]))] := hD
                refine W.eq (g2 := F0 m 33 ls [.int 0]) rfl ?_
                exact EWz hx hb hr hlocks hS () rfl rfl trivial nil_P nil_D dX11_pour_33
        ·
          refine lv_iload_n hx hb dX11_pour_14 rfl (lv_at hl 2 rfl) ?_
          refine lv_if_lt (tgt := 28) hx hb dX11_pour_15 (by decide) (fun c_26 => ?_) (fun c_26 => ?_)
          ·
            refine lv_aload_n hx hb dX11_pour_28 rfl (lv_at hl 0 rfl) ?_
            refine lv_iconst (v := 1) hx hb dX11_pour_29 (by decide) ?_
            refine CWV (As := [.int 1]) (rest := []) (wc := [((q 0), .inr (11, [.ref (q 1), .ref (q 2), .ref (q 3), .ref (q 4), .ref (q 5), .ref (q 6), .ref (q 7), .ref (q 8), .ref (q 9), .ref (q 10), .ref (q 11), .int 0, .int 0, .int 0, .long 0, .long 1]))]) (wr := [((q 1), .inl (k 3, 4, .inr (.inr (.inr (.inr (fun i => some (q (120 + i)))))))), ((q 120), .inr (7, [.ref (q 124), .int 0, .int (-1)])), ((q 121), .inr (7, [.ref (q 125), .int 0, .int (-1)])), ((q 122), .inr (7, [.ref (q 126), .int 0, .int (-1)])), ((q 123), .inr (7, [.ref (q 127), .int 0, .int (-1)]))]) hx hb hml hown hts hKK hP hD hS hA (c_deny l D k (q 0) [.ref (q 1), .ref (q 2), .ref (q 3), .ref (q 4), .ref (q 5), .ref (q 6), .ref (q 7), .ref (q 8), .ref (q 9), .ref (q 10), .ref (q 11), .int 0, .int 0, .int 0, .long 0, .long 1] (Nat.le_of_ble_eq_true rfl) 1) ci_X11_deny qm_X11_107 ⟨Nat.le_of_ble_eq_true rfl, Nat.le_of_ble_eq_true rfl⟩ ⟨Nat.le_of_ble_eq_true rfl, Nat.le_of_ble_eq_true rfl⟩ [0] [1, 2, 3, 4, 5] rfl rfl rfl rfl rfl (by decide) 0 rfl rfl rfl hl.1 rfl (Nat.le_of_ble_eq_true rfl) dX11_pour_30 (fun u_27 H locs hφ hP hD hS => ?_)
            have hP : va_P D vwCl [((q 1), .inl (k 3, 4, .inr (.inr (.inr (.inr (fun i => some (q (120 + i)))))))), ((q 120), .inr (7, [.ref (q 124), .int 0, .int (-1)])), ((q 121), .inr (7, [.ref (q 125), .int 0, .int (-1)])), ((q 122), .inr (7, [.ref (q 126), .int 0, .int (-1)])), ((q 123), .inr (7, [.ref (q 127), .int 0, .int (-1)]))] H := hP
            have hD : va_D A [((q 1), .inl (k 3, 4, .inr (.inr (.inr (.inr (fun i => some (q (120 + i)))))))), ((q 120), .inr (7, [.ref (q 124), .int 0, .int (-1)])), ((q 121), .inr (7, [.ref (q 125), .int 0, .int (-1)])), ((q 122), .inr (7, [.ref (q 126), .int 0, .int (-1)])), ((q 123), .inr (7, [.ref (q 127), .int 0, .int (-1)]))] := hD
            refine W.eq (g2 := F0 m 33 ls [.int 0]) rfl ?_
            exact EWz hx hb hr hlocks hS () rfl rfl trivial nil_P nil_D dX11_pour_33
          ·
            refine lv_iload hx hb dX11_pour_18 (lv_at hl 4 rfl) ?_
            refine lv_if_lt (tgt := 28) hx hb dX11_pour_20 (by decide) (fun c_28 => ?_) (fun c_28 => ?_)
            ·
              refine lv_aload_n hx hb dX11_pour_28 rfl (lv_at hl 0 rfl) ?_
              refine lv_iconst (v := 1) hx hb dX11_pour_29 (by decide) ?_
              refine CWV (As := [.int 1]) (rest := []) (wc := [((q 0), .inr (11, [.ref (q 1), .ref (q 2), .ref (q 3), .ref (q 4), .ref (q 5), .ref (q 6), .ref (q 7), .ref (q 8), .ref (q 9), .ref (q 10), .ref (q 11), .int 0, .int 0, .int 0, .long 0, .long 1]))]) (wr := [((q 1), .inl (k 3, 4, .inr (.inr (.inr (.inr (fun i => some (q (120 + i)))))))), ((q 120), .inr (7, [.ref (q 124), .int 0, .int (-1)])), ((q 121), .inr (7, [.ref (q 125), .int 0, .int (-1)])), ((q 122), .inr (7, [.ref (q 126), .int 0, .int (-1)])), ((q 123), .inr (7, [.ref (q 127), .int 0, .int (-1)]))]) hx hb hml hown hts hKK hP hD hS hA (c_deny l D k (q 0) [.ref (q 1), .ref (q 2), .ref (q 3), .ref (q 4), .ref (q 5), .ref (q 6), .ref (q 7), .ref (q 8), .ref (q 9), .ref (q 10), .ref (q 11), .int 0, .int 0, .int 0, .long 0, .long 1] (Nat.le_of_ble_eq_true rfl) 1) ci_X11_deny qm_X11_107 ⟨Nat.le_of_ble_eq_true rfl, Nat.le_of_ble_eq_true rfl⟩ ⟨Nat.le_of_ble_eq_true rfl, Nat.le_of_ble_eq_true rfl⟩ [0] [1, 2, 3, 4, 5] rfl rfl rfl rfl rfl (by decide) 0 rfl rfl rfl hl.1 rfl (Nat.le_of_ble_eq_true rfl) dX11_pour_30 (fun u_29 H locs hφ hP hD hS => ?_)
              have hP : va_P D vwCl [((q 1), .inl (k 3, 4, .inr (.inr (.inr (.inr (fun i => some (q (120 + i)))))))), ((q 120), .inr (7, [.ref (q 124), .int 0, .int (-1)])), ((q 121), .inr (7, [.ref (q 125), .int 0, .int (-1)])), ((q 122), .inr (7, [.ref (q 126), .int 0, .int (-1)])), ((q 123), .inr (7, [.ref (q 127), .int 0, .int (-1)]))] H := hP
              have hD : va_D A [((q 1), .inl (k 3, 4, .inr (.inr (.inr (.inr (fun i => some (q (120 + i)))))))), ((q 120), .inr (7, [.ref (q 124), .int 0, .int (-1)])), ((q 121), .inr (7, [.ref (q 125), .int 0, .int (-1)])), ((q 122), .inr (7, [.ref (q 126), .int 0, .int (-1)])), ((q 123), .inr (7, [.ref (q 127), .int 0, .int (-1)]))] := hD
              refine W.eq (g2 := F0 m 33 ls [.int 0]) rfl ?_
              exact EWz hx hb hr hlocks hS () rfl rfl trivial nil_P nil_D dX11_pour_33
            ·
              refine lv_iload hx hb dX11_pour_23 (lv_at hl 5 rfl) ?_
              refine lv_if_ge (tgt := 34) hx hb dX11_pour_25 (by decide) (fun c_30 => ?_) (fun c_30 => ?_)
              ·
                refine lv_aload_n hx hb dX11_pour_34 rfl (lv_at hl 0 rfl) ?_
                refine va_get (D := D) (ci := 11) (v := .ref (q 1)) (C := RX11) (T := TX11) (N := 16) hx hb hts iX11 hown hK hP 0 rfl rfl 0 (by decide) (hts _ qf_X11_11) (fun _ h => h) rfl dX11_pour_35 ?_
                refine lv_iload_n hx hb dX11_pour_38 rfl (lv_at hl 1 rfl) ?_
                refine va_aldq hx hb hK hP 1 3 rfl rfl (xin 0 4 rfl (by decide) (by decide)) dX11_pour_39 ?_
                refine W.eq (g2 := F0 m 40 ls [.ref (q 120)]) rfl ?_
                refine lv_astore (lv' := [(6, .ref (q 120)), (0, .ref (q 0)), (1, .int 0), (2, .int b), (3, .int 3), (4, .int d1), (5, .int e1)]) hx hb dX11_pour_40 hl (by decide) rfl (fun ls hl => ?_)
                refine lv_aload_n hx hb dX11_pour_42 rfl (lv_at hl 1 rfl) ?_
                refine va_get (D := D) (ci := 11) (v := .ref (q 1)) (C := RX11) (T := TX11) (N := 16) hx hb hts iX11 hown hK hP 0 rfl rfl 0 (by decide) (hts _ qf_X11_11) (fun _ h => h) rfl dX11_pour_43 ?_
                refine lv_iload_n hx hb dX11_pour_46 rfl (lv_at hl 4 rfl) ?_
                refine va_aldq hx hb hK hP 1 3 rfl rfl (xin 3 4 rfl (by decide) (by decide)) dX11_pour_47 ?_
                refine W.eq (g2 := F0 m 48 ls [.ref (q 123)]) rfl ?_
                refine lv_astore (lv' := [(7, .ref (q 123)), (6, .ref (q 120)), (0, .ref (q 0)), (1, .int 0), (2, .int b), (3, .int 3), (4, .int d1), (5, .int e1)]) hx hb dX11_pour_48 hl (by decide) rfl (fun ls hl => ?_)
                refine lv_aload hx hb dX11_pour_50 (lv_at hl 1 rfl) ?_
                refine CRV (As := []) (rest := []) hx hb hml hown hts hKK (hP.sub (ws' := [((q 120), .inr (7, [.ref (q 124), .int 0, .int (-1)]))]) [2] rfl) (c_isMissing l D k (q 120) [.ref (q 124), .int 0, .int (-1)] rfl) ci_X7_isMissing qm_X11_134 ⟨Nat.le_of_ble_eq_true rfl, Nat.le_of_ble_eq_true rfl⟩ ⟨Nat.le_of_ble_eq_true rfl, Nat.le_of_ble_eq_true rfl⟩ 0 rfl rfl rfl hl.1 rfl (Nat.le_of_ble_eq_true rfl) dX11_pour_52 ?_
                refine lv_if_ne (tgt := 66) hx hb dX11_pour_55 (by decide) (fun _ => ?_) (fun c => absurd c (by decide))
                refine lv_aload_n hx hb dX11_pour_66 rfl (lv_at hl 2 rfl) ?_
                refine lv_iconst (v := 2) hx hb dX11_pour_67 (by decide) ?_
                refine CWV (As := [.int 2]) (rest := []) (wc := [((q 0), .inr (11, [.ref (q 1), .ref (q 2), .ref (q 3), .ref (q 4), .ref (q 5), .ref (q 6), .ref (q 7), .ref (q 8), .ref (q 9), .ref (q 10), .ref (q 11), .int 0, .int 0, .int 0, .long 0, .long 1]))]) (wr := [((q 1), .inl (k 3, 4, .inr (.inr (.inr (.inr (fun i => some (q (120 + i)))))))), ((q 120), .inr (7, [.ref (q 124), .int 0, .int (-1)])), ((q 121), .inr (7, [.ref (q 125), .int 0, .int (-1)])), ((q 122), .inr (7, [.ref (q 126), .int 0, .int (-1)])), ((q 123), .inr (7, [.ref (q 127), .int 0, .int (-1)]))]) hx hb hml hown hts hKK hP hD hS hA (c_deny l D k (q 0) [.ref (q 1), .ref (q 2), .ref (q 3), .ref (q 4), .ref (q 5), .ref (q 6), .ref (q 7), .ref (q 8), .ref (q 9), .ref (q 10), .ref (q 11), .int 0, .int 0, .int 0, .long 0, .long 1] (Nat.le_of_ble_eq_true rfl) 2) ci_X11_deny qm_X11_107 ⟨Nat.le_of_ble_eq_true rfl, Nat.le_of_ble_eq_true rfl⟩ ⟨Nat.le_of_ble_eq_true rfl, Nat.le_of_ble_eq_true rfl⟩ [0] [1, 2, 3, 4, 5] rfl rfl rfl rfl rfl (by decide) 0 rfl rfl rfl hl.1 rfl (Nat.le_of_ble_eq_true rfl) dX11_pour_68 (fun u_31 H locs hφ hP hD hS => ?_)
                have hP : va_P D vwCl [((q 1), .inl (k 3, 4, .inr (.inr (.inr (.inr (fun i => some (q (120 + i)))))))), ((q 120), .inr (7, [.ref (q 124), .int 0, .int (-1)])), ((q 121), .inr (7, [.ref (q 125), .int 0, .int (-1)])), ((q 122), .inr (7, [.ref (q 126), .int 0, .int (-1)])), ((q 123), .inr (7, [.ref (q 127), .int 0, .int (-1)]))] H := hP
                have hD : va_D A [((q 1), .inl (k 3, 4, .inr (.inr (.inr (.inr (fun i => some (q (120 + i)))))))), ((q 120), .inr (7, [.ref (q 124), .int 0, .int (-1)])), ((q 121), .inr (7, [.ref (q 125), .int 0, .int (-1)])), ((q 122), .inr (7, [.ref (q 126), .int 0, .int (-1)])), ((q 123), .inr (7, [.ref (q 127), .int 0, .int (-1)]))] := hD
                refine W.eq (g2 := F0 m 71 ls [.int 0]) rfl ?_
                exact EWz hx hb hr hlocks hS () rfl rfl trivial nil_P nil_D dX11_pour_71
              ·
                refine lv_aload_n hx hb dX11_pour_28 rfl (lv_at hl 0 rfl) ?_
                refine lv_iconst (v := 1) hx hb dX11_pour_29 (by decide) ?_
                refine CWV (As := [.int 1]) (rest := []) (wc := [((q 0), .inr (11, [.ref (q 1), .ref (q 2), .ref (q 3), .ref (q 4), .ref (q 5), .ref (q 6), .ref (q 7), .ref (q 8), .ref (q 9), .ref (q 10), .ref (q 11), .int 0, .int 0, .int 0, .long 0, .long 1]))]) (wr := [((q 1), .inl (k 3, 4, .inr (.inr (.inr (.inr (fun i => some (q (120 + i)))))))), ((q 120), .inr (7, [.ref (q 124), .int 0, .int (-1)])), ((q 121), .inr (7, [.ref (q 125), .int 0, .int (-1)])), ((q 122), .inr (7, [.ref (q 126), .int 0, .int (-1)])), ((q 123), .inr (7, [.ref (q 127), .int 0, .int (-1)]))]) hx hb hml hown hts hKK hP hD hS hA (c_deny l D k (q 0) [.ref (q 1), .ref (q 2), .ref (q 3), .ref (q 4), .ref (q 5), .ref (q 6), .ref (q 7), .ref (q 8), .ref (q 9), .ref (q 10), .ref (q 11), .int 0, .int 0, .int 0, .long 0, .long 1] (Nat.le_of_ble_eq_true rfl) 1) ci_X11_deny qm_X11_107 ⟨Nat.le_of_ble_eq_true rfl, Nat.le_of_ble_eq_true rfl⟩ ⟨Nat.le_of_ble_eq_true rfl, Nat.le_of_ble_eq_true rfl⟩ [0] [1, 2, 3, 4, 5] rfl rfl rfl rfl rfl (by decide) 0 rfl rfl rfl hl.1 rfl (Nat.le_of_ble_eq_true rfl) dX11_pour_30 (fun u_32 H locs hφ hP hD hS => ?_)
                have hP : va_P D vwCl [((q 1), .inl (k 3, 4, .inr (.inr (.inr (.inr (fun i => some (q (120 + i)))))))), ((q 120), .inr (7, [.ref (q 124), .int 0, .int (-1)])), ((q 121), .inr (7, [.ref (q 125), .int 0, .int (-1)])), ((q 122), .inr (7, [.ref (q 126), .int 0, .int (-1)])), ((q 123), .inr (7, [.ref (q 127), .int 0, .int (-1)]))] H := hP
                have hD : va_D A [((q 1), .inl (k 3, 4, .inr (.inr (.inr (.inr (fun i => some (q (120 + i)))))))), ((q 120), .inr (7, [.ref (q 124), .int 0, .int (-1)])), ((q 121), .inr (7, [.ref (q 125), .int 0, .int (-1)])), ((q 122), .inr (7, [.ref (q 126), .int 0, .int (-1)])), ((q 123), .inr (7, [.ref (q 127), .int 0, .int (-1)]))] := hD
                refine W.eq (g2 := F0 m 33 ls [.int 0]) rfl ?_
                exact EWz hx hb hr hlocks hS () rfl rfl trivial nil_P nil_D dX11_pour_33
    ·
      refine lv_iload_n hx hb dX11_pour_7 rfl (lv_at hl 3 rfl) ?_
      refine CRS (As := [.int c1]) (rest := []) hx hb hml hown hts hKK (hP.sub (ws' := []) [] rfl) (c_isTray l D k c1) ci_X11_isTray qm_X11_99 ⟨Nat.le_of_ble_eq_true rfl, Nat.le_of_ble_eq_true rfl⟩ ⟨Nat.le_of_ble_eq_true rfl, Nat.le_of_ble_eq_true rfl⟩ rfl hl.1 rfl (Nat.le_of_ble_eq_true rfl) dX11_pour_8 ?_
      refine lv_if_eq (tgt := 28) hx hb dX11_pour_11 (by decide) (fun c_33 => ?_) (fun c_33 => ?_)
      ·
        refine lv_aload_n hx hb dX11_pour_28 rfl (lv_at hl 0 rfl) ?_
        refine lv_iconst (v := 1) hx hb dX11_pour_29 (by decide) ?_
        refine CWV (As := [.int 1]) (rest := []) (wc := [((q 0), .inr (11, [.ref (q 1), .ref (q 2), .ref (q 3), .ref (q 4), .ref (q 5), .ref (q 6), .ref (q 7), .ref (q 8), .ref (q 9), .ref (q 10), .ref (q 11), .int 0, .int 0, .int 0, .long 0, .long 1]))]) (wr := [((q 1), .inl (k 3, 4, .inr (.inr (.inr (.inr (fun i => some (q (120 + i)))))))), ((q 120), .inr (7, [.ref (q 124), .int 0, .int (-1)])), ((q 121), .inr (7, [.ref (q 125), .int 0, .int (-1)])), ((q 122), .inr (7, [.ref (q 126), .int 0, .int (-1)])), ((q 123), .inr (7, [.ref (q 127), .int 0, .int (-1)]))]) hx hb hml hown hts hKK hP hD hS hA (c_deny l D k (q 0) [.ref (q 1), .ref (q 2), .ref (q 3), .ref (q 4), .ref (q 5), .ref (q 6), .ref (q 7), .ref (q 8), .ref (q 9), .ref (q 10), .ref (q 11), .int 0, .int 0, .int 0, .long 0, .long 1] (Nat.le_of_ble_eq_true rfl) 1) ci_X11_deny qm_X11_107 ⟨Nat.le_of_ble_eq_true rfl, Nat.le_of_ble_eq_true rfl⟩ ⟨Nat.le_of_ble_eq_true rfl, Nat.le_of_ble_eq_true rfl⟩ [0] [1, 2, 3, 4, 5] rfl rfl rfl rfl rfl (by decide) 0 rfl rfl rfl hl.1 rfl (Nat.le_of_ble_eq_true rfl) dX11_pour_30 (fun u_34 H locs hφ hP hD hS => ?_)
        have hP : va_P D vwCl [((q 1), .inl (k 3, 4, .inr (.inr (.inr (.inr (fun i => some (q (120 + i)))))))), ((q 120), .inr (7, [.ref (q 124), .int 0, .int (-1)])), ((q 121), .inr (7, [.ref (q 125), .int 0, .int (-1)])), ((q 122), .inr (7, [.ref (q 126), .int 0, .int (-1)])), ((q 123), .inr (7, [.ref (q 127), .int 0, .int (-1)]))] H := hP
        have hD : va_D A [((q 1), .inl (k 3, 4, .inr (.inr (.inr (.inr (fun i => some (q (120 + i)))))))), ((q 120), .inr (7, [.ref (q 124), .int 0, .int (-1)])), ((q 121), .inr (7, [.ref (q 125), .int 0, .int (-1)])), ((q 122), .inr (7, [.ref (q 126), .int 0, .int (-1)])), ((q 123), .inr (7, [.ref (q 127), .int 0, .int (-1)]))] := hD
        refine W.eq (g2 := F0 m 33 ls [.int 0]) rfl ?_
        exact EWz hx hb hr hlocks hS () rfl rfl trivial nil_P nil_D dX11_pour_33
      ·
        obtain rfl | rfl | rfl | rfl := bw4 c_33
        ·
          refine lv_iload_n hx hb dX11_pour_14 rfl (lv_at hl 2 rfl) ?_
          refine lv_if_lt (tgt := 28) hx hb dX11_pour_15 (by decide) (fun c_35 => ?_) (fun c_35 => ?_)
          ·
            refine lv_aload_n hx hb dX11_pour_28 rfl (lv_at hl 0 rfl) ?_
            refine lv_iconst (v := 1) hx hb dX11_pour_29 (by decide) ?_
            refine CWV (As := [.int 1]) (rest := []) (wc := [((q 0), .inr (11, [.ref (q 1), .ref (q 2), .ref (q 3), .ref (q 4), .ref (q 5), .ref (q 6), .ref (q 7), .ref (q 8), .ref (q 9), .ref (q 10), .ref (q 11), .int 0, .int 0, .int 0, .long 0, .long 1]))]) (wr := [((q 1), .inl (k 3, 4, .inr (.inr (.inr (.inr (fun i => some (q (120 + i)))))))), ((q 120), .inr (7, [.ref (q 124), .int 0, .int (-1)])), ((q 121), .inr (7, [.ref (q 125), .int 0, .int (-1)])), ((q 122), .inr (7, [.ref (q 126), .int 0, .int (-1)])), ((q 123), .inr (7, [.ref (q 127), .int 0, .int (-1)]))]) hx hb hml hown hts hKK hP hD hS hA (c_deny l D k (q 0) [.ref (q 1), .ref (q 2), .ref (q 3), .ref (q 4), .ref (q 5), .ref (q 6), .ref (q 7), .ref (q 8), .ref (q 9), .ref (q 10), .ref (q 11), .int 0, .int 0, .int 0, .long 0, .long 1] (Nat.le_of_ble_eq_true rfl) 1) ci_X11_deny qm_X11_107 ⟨Nat.le_of_ble_eq_true rfl, Nat.le_of_ble_eq_true rfl⟩ ⟨Nat.le_of_ble_eq_true rfl, Nat.le_of_ble_eq_true rfl⟩ [0] [1, 2, 3, 4, 5] rfl rfl rfl rfl rfl (by decide) 0 rfl rfl rfl hl.1 rfl (Nat.le_of_ble_eq_true rfl) dX11_pour_30 (fun u_36 H locs hφ hP hD hS => ?_)
            have hP : va_P D vwCl [((q 1), .inl (k 3, 4, .inr (.inr (.inr (.inr (fun i => some (q (120 + i)))))))), ((q 120), .inr (7, [.ref (q 124), .int 0, .int (-1)])), ((q 121), .inr (7, [.ref (q 125), .int 0, .int (-1)])), ((q 122), .inr (7, [.ref (q 126), .int 0, .int (-1)])), ((q 123), .inr (7, [.ref (q 127), .int 0, .int (-1)]))] H := hP
            have hD : va_D A [((q 1), .inl (k 3, 4, .inr (.inr (.inr (.inr (fun i => some (q (120 + i)))))))), ((q 120), .inr (7, [.ref (q 124), .int 0, .int (-1)])), ((q 121), .inr (7, [.ref (q 125), .int 0, .int (-1)])), ((q 122), .inr (7, [.ref (q 126), .int 0, .int (-1)])), ((q 123), .inr (7, [.ref (q 127), .int 0, .int (-1)]))] := hD
            refine W.eq (g2 := F0 m 33 ls [.int 0]) rfl ?_
            exact EWz hx hb hr hlocks hS () rfl rfl trivial nil_P nil_D dX11_pour_33
          ·
            refine lv_iload hx hb dX11_pour_18 (lv_at hl 4 rfl) ?_
            refine lv_if_lt (tgt := 28) hx hb dX11_pour_20 (by decide) (fun c_37 => ?_) (fun c_37 => ?_)
            ·
              refine lv_aload_n hx hb dX11_pour_28 rfl (lv_at hl 0 rfl) ?_
              refine lv_iconst (v := 1) hx hb dX11_pour_29 (by decide) ?_
              refine CWV (As := [.int 1]) (rest := []) (wc := [((q 0), .inr (11, [.ref (q 1), .ref (q 2), .ref (q 3), .ref (q 4), .ref (q 5), .ref (q 6), .ref (q 7), .ref (q 8), .ref (q 9), .ref (q 10), .ref (q 11), .int 0, .int 0, .int 0, .long 0, .long 1]))]) (wr := [((q 1), .inl (k 3, 4, .inr (.inr (.inr (.inr (fun i => some (q (120 + i)))))))), ((q 120), .inr (7, [.ref (q 124), .int 0, .int (-1)])), ((q 121), .inr (7, [.ref (q 125), .int 0, .int (-1)])), ((q 122), .inr (7, [.ref (q 126), .int 0, .int (-1)])), ((q 123), .inr (7, [.ref (q 127), .int 0, .int (-1)]))]) hx hb hml hown hts hKK hP hD hS hA (c_deny l D k (q 0) [.ref (q 1), .ref (q 2), .ref (q 3), .ref (q 4), .ref (q 5), .ref (q 6), .ref (q 7), .ref (q 8), .ref (q 9), .ref (q 10), .ref (q 11), .int 0, .int 0, .int 0, .long 0, .long 1] (Nat.le_of_ble_eq_true rfl) 1) ci_X11_deny qm_X11_107 ⟨Nat.le_of_ble_eq_true rfl, Nat.le_of_ble_eq_true rfl⟩ ⟨Nat.le_of_ble_eq_true rfl, Nat.le_of_ble_eq_true rfl⟩ [0] [1, 2, 3, 4, 5] rfl rfl rfl rfl rfl (by decide) 0 rfl rfl rfl hl.1 rfl (Nat.le_of_ble_eq_true rfl) dX11_pour_30 (fun u_38 H locs hφ hP hD hS => ?_)
              have hP : va_P D vwCl [((q 1), .inl (k 3, 4, .inr (.inr (.inr (.inr (fun i => some (q (120 + i)))))))), ((q 120), .inr (7, [.ref (q 124), .int 0, .int (-1)])), ((q 121), .inr (7, [.ref (q 125), .int 0, .int (-1)])), ((q 122), .inr (7, [.ref (q 126), .int 0, .int (-1)])), ((q 123), .inr (7, [.ref (q 127), .int 0, .int (-1)]))] H := hP
              have hD : va_D A [((q 1), .inl (k 3, 4, .inr (.inr (.inr (.inr (fun i => some (q (120 + i)))))))), ((q 120), .inr (7, [.ref (q 124), .int 0, .int (-1)])), ((q 121), .inr (7, [.ref (q 125), .int 0, .int (-1)])), ((q 122), .inr (7, [.ref (q 126), .int 0, .int (-1)])), ((q 123), .inr (7, [.ref (q 127), .int 0, .int (-1)]))] := hD
              refine W.eq (g2 := F0 m 33 ls [.int 0]) rfl ?_
              exact EWz hx hb hr hlocks hS () rfl rfl trivial nil_P nil_D dX11_pour_33
            ·
              refine lv_iload hx hb dX11_pour_23 (lv_at hl 5 rfl) ?_
              refine lv_if_ge (tgt := 34) hx hb dX11_pour_25 (by decide) (fun c_39 => ?_) (fun c_39 => ?_)
              ·
                refine lv_aload_n hx hb dX11_pour_34 rfl (lv_at hl 0 rfl) ?_
                refine va_get (D := D) (ci := 11) (v := .ref (q 1)) (C := RX11) (T := TX11) (N := 16) hx hb hts iX11 hown hK hP 0 rfl rfl 0 (by decide) (hts _ qf_X11_11) (fun _ h => h) rfl dX11_pour_35 ?_
                refine lv_iload_n hx hb dX11_pour_38 rfl (lv_at hl 1 rfl) ?_
                refine va_aldq hx hb hK hP 1 3 rfl rfl (xin 1 4 rfl (by decide) (by decide)) dX11_pour_39 ?_
                refine W.eq (g2 := F0 m 40 ls [.ref (q 121)]) rfl ?_
                refine lv_astore (lv' := [(6, .ref (q 121)), (0, .ref (q 0)), (1, .int 1), (2, .int b), (3, .int 0), (4, .int d1), (5, .int e1)]) hx hb dX11_pour_40 hl (by decide) rfl (fun ls hl => ?_)
                refine lv_aload_n hx hb dX11_pour_42 rfl (lv_at hl 1 rfl) ?_
                refine va_get (D := D) (ci := 11) (v := .ref (q 1)) (C := RX11) (T := TX11) (N := 16) hx hb hts iX11 hown hK hP 0 rfl rfl 0 (by decide) (hts _ qf_X11_11) (fun _ h => h) rfl dX11_pour_43 ?_
                refine lv_iload_n hx hb dX11_pour_46 rfl (lv_at hl 4 rfl) ?_
                refine va_aldq hx hb hK hP 1 3 rfl rfl (xin 0 4 rfl (by decide) (by decide)) dX11_pour_47 ?_
                refine W.eq (g2 := F0 m 48 ls [.ref (q 120)]) rfl ?_
                refine lv_astore (lv' := [(7, .ref (q 120)), (6, .ref (q 121)), (0, .ref (q 0)), (1, .int 1), (2, .int b), (3, .int 0), (4, .int d1), (5, .int e1)]) hx hb dX11_pour_48 hl (by decide) rfl (fun ls hl => ?_)
                refine lv_aload hx hb dX11_pour_50 (lv_at hl 1 rfl) ?_
                refine CRV (As := []) (rest := []) hx hb hml hown hts hKK (hP.sub (ws' := [((q 121), .inr (7, [.ref (q 125), .int 0, .int (-1)]))]) [3] rfl) (c_isMissing l D k (q 121) [.ref (q 125), .int 0, .int (-1)] rfl) ci_X7_isMissing qm_X11_134 ⟨Nat.le_of_ble_eq_true rfl, Nat.le_of_ble_eq_true rfl⟩ ⟨Nat.le_of_ble_eq_true rfl, Nat.le_of_ble_eq_true rfl⟩ 0 rfl rfl rfl hl.1 rfl (Nat.le_of_ble_eq_true rfl) dX11_pour_52 ?_
                refine lv_if_ne (tgt := 66) hx hb dX11_pour_55 (by decide) (fun _ => ?_) (fun c => absurd c (by decide))
                refine lv_aload_n hx hb dX11_pour_66 rfl (lv_at hl 2 rfl) ?_
                refine lv_iconst (v := 2) hx hb dX11_pour_67 (by decide) ?_
                refine CWV (As := [.int 2]) (rest := []) (wc := [((q 0), .inr (11, [.ref (q 1), .ref (q 2), .ref (q 3), .ref (q 4), .ref (q 5), .ref (q 6), .ref (q 7), .ref (q 8), .ref (q 9), .ref (q 10), .ref (q 11), .int 0, .int 0, .int 0, .long 0, .long 1]))]) (wr := [((q 1), .inl (k 3, 4, .inr (.inr (.inr (.inr (fun i => some (q (120 + i)))))))), ((q 120), .inr (7, [.ref (q 124), .int 0, .int (-1)])), ((q 121), .inr (7, [.ref (q 125), .int 0, .int (-1)])), ((q 122), .inr (7, [.ref (q 126), .int 0, .int (-1)])), ((q 123), .inr (7, [.ref (q 127), .int 0, .int (-1)]))]) hx hb hml hown hts hKK hP hD hS hA (c_deny l D k (q 0) [.ref (q 1), .ref (q 2), .ref (q 3), .ref (q 4), .ref (q 5), .ref (q 6), .ref (q 7), .ref (q 8), .ref (q 9), .ref (q 10), .ref (q 11), .int 0, .int 0, .int 0, .long 0, .long 1] (Nat.le_of_ble_eq_true rfl) 2) ci_X11_deny qm_X11_107 ⟨Nat.le_of_ble_eq_true rfl, Nat.le_of_ble_eq_true rfl⟩ ⟨Nat.le_of_ble_eq_true rfl, Nat.le_of_ble_eq_true rfl⟩ [0] [1, 2, 3, 4, 5] rfl rfl rfl rfl rfl (by decide) 0 rfl rfl rfl hl.1 rfl (Nat.le_of_ble_eq_true rfl) dX11_pour_68 (fun u_40 H locs hφ hP hD hS => ?_)
                have hP : va_P D vwCl [((q 1), .inl (k 3, 4, .inr (.inr (.inr (.inr (fun i => some (q (120 + i)))))))), ((q 120), .inr (7, [.ref (q 124), .int 0, .int (-1)])), ((q 121), .inr (7, [.ref (q 125), .int 0, .int (-1)])), ((q 122), .inr (7, [.ref (q 126), .int 0, .int (-1)])), ((q 123), .inr (7, [.ref (q 127), .int 0, .int (-1)]))] H := hP
                have hD : va_D A [((q 1), .inl (k 3, 4, .inr (.inr (.inr (.inr (fun i => some (q (120 + i)))))))), ((q 120), .inr (7, [.ref (q 124), .int 0, .int (-1)])), ((q 121), .inr (7, [.ref (q 125), .int 0, .int (-1)])), ((q 122), .inr (7, [.ref (q 126), .int 0, .int (-1)])), ((q 123), .inr (7, [.ref (q 127), .int 0, .int (-1)]))] := hD
                refine W.eq (g2 := F0 m 71 ls [.int 0]) rfl ?_
                exact EWz hx hb hr hlocks hS () rfl rfl trivial nil_P nil_D dX11_pour_71
              ·
                refine lv_aload_n hx hb dX11_pour_28 rfl (lv_at hl 0 rfl) ?_
                refine lv_iconst (v := 1) hx hb dX11_pour_29 (by decide) ?_
                refine CWV (As := [.int 1]) (rest := []) (wc := [((q 0), .inr (11, [.ref (q 1), .ref (q 2), .ref (q 3), .ref (q 4), .ref (q 5), .ref (q 6), .ref (q 7), .ref (q 8), .ref (q 9), .ref (q 10), .ref (q 11), .int 0, .int 0, .int 0, .long 0, .long 1]))]) (wr := [((q 1), .inl (k 3, 4, .inr (.inr (.inr (.inr (fun i => some (q (120 + i)))))))), ((q 120), .inr (7, [.ref (q 124), .int 0, .int (-1)])), ((q 121), .inr (7, [.ref (q 125), .int 0, .int (-1)])), ((q 122), .inr (7, [.ref (q 126), .int 0, .int (-1)])), ((q 123), .inr (7, [.ref (q 127), .int 0, .int (-1)]))]) hx hb hml hown hts hKK hP hD hS hA (c_deny l D k (q 0) [.ref (q 1), .ref (q 2), .ref (q 3), .ref (q 4), .ref (q 5), .ref (q 6), .ref (q 7), .ref (q 8), .ref (q 9), .ref (q 10), .ref (q 11), .int 0, .int 0, .int 0, .long 0, .long 1] (Nat.le_of_ble_eq_true rfl) 1) ci_X11_deny qm_X11_107 ⟨Nat.le_of_ble_eq_true rfl, Nat.le_of_ble_eq_true rfl⟩ ⟨Nat.le_of_ble_eq_true rfl, Nat.le_of_ble_eq_true rfl⟩ [0] [1, 2, 3, 4, 5] rfl rfl rfl rfl rfl (by decide) 0 rfl rfl rfl hl.1 rfl (Nat.le_of_ble_eq_true rfl) dX11_pour_30 (fun u_41 H locs hφ hP hD hS => ?_)
                have hP : va_P D vwCl [((q 1), .inl (k 3, 4, .inr (.inr (.inr (.inr (fun i => some (q (120 + i)))))))), ((q 120), .inr (7, [.ref (q 124), .int 0, .int (-1)])), ((q 121), .inr (7, [.ref (q 125), .int 0, .int (-1)])), ((q 122), .inr (7, [.ref (q 126), .int 0, .int (-1)])), ((q 123), .inr (7, [.ref (q 127), .int 0, .int (-1)]))] H := hP
                have hD : va_D A [((q 1), .inl (k 3, 4, .inr (.inr (.inr (.inr (fun i => some (q (120 + i)))))))), ((q 120), .inr (7, [.ref (q 124), .int 0, .int (-1)])), ((q 121), .inr (7, [.ref (q 125), .int 0, .int (-1)])), ((q 122), .inr (7, [.ref (q 126), .int 0, .int (-1)])), ((q 123), .inr (7, [.ref (q 127), .int 0, .int (-1)]))] := hD
                refine W.eq (g2 := F0 m 33 ls [.int 0]) rfl ?_
                exact EWz hx hb hr hlocks hS () rfl rfl trivial nil_P nil_D dX11_pour_33
        ·
          refine lv_iload_n hx hb dX11_pour_14 rfl (lv_at hl 2 rfl) ?_
          refine lv_if_lt (tgt := 28) hx hb dX11_pour_15 (by decide) (fun c_42 => ?_) (fun c_42 => ?_)
          ·
            refine lv_aload_n hx hb dX11_pour_28 rfl (lv_at hl 0 rfl) ?_
            refine lv_iconst (v := 1) hx hb dX11_pour_29 (by decide) ?_
            refine CWV (As := [.int 1]) (rest := []) (wc := [((q 0), .inr (11, [.ref (q 1), .ref (q 2), .ref (q 3), .ref (q 4), .ref (q 5), .ref (q 6), .ref (q 7), .ref (q 8), .ref (q 9), .ref (q 10), .ref (q 11), .int 0, .int 0, .int 0, .long 0, .long 1]))]) (wr := [((q 1), .inl (k 3, 4, .inr (.inr (.inr (.inr (fun i => some (q (120 + i)))))))), ((q 120), .inr (7, [.ref (q 124), .int 0, .int (-1)])), ((q 121), .inr (7, [.ref (q 125), .int 0, .int (-1)])), ((q 122), .inr (7, [.ref (q 126), .int 0, .int (-1)])), ((q 123), .inr (7, [.ref (q 127), .int 0, .int (-1)]))]) hx hb hml hown hts hKK hP hD hS hA (c_deny l D k (q 0) [.ref (q 1), .ref (q 2), .ref (q 3), .ref (q 4), .ref (q 5), .ref (q 6), .ref (q 7), .ref (q 8), .ref (q 9), .ref (q 10), .ref (q 11), .int 0, .int 0, .int 0, .long 0, .long 1] (Nat.le_of_ble_eq_true rfl) 1) ci_X11_deny qm_X11_107 ⟨Nat.le_of_ble_eq_true rfl, Nat.le_of_ble_eq_true rfl⟩ ⟨Nat.le_of_ble_eq_true rfl, Nat.le_of_ble_eq_true rfl⟩ [0] [1, 2, 3, 4, 5] rfl rfl rfl rfl rfl (by decide) 0 rfl rfl rfl hl.1 rfl (Nat.le_of_ble_eq_true rfl) dX11_pour_30 (fun u_43 H locs hφ hP hD hS => ?_)
            have hP : va_P D vwCl [((q 1), .inl (k 3, 4, .inr (.inr (.inr (.inr (fun i => some (q (120 + i)))))))), ((q 120), .inr (7, [.ref (q 124), .int 0, .int (-1)])), ((q 121), .inr (7, [.ref (q 125), .int 0, .int (-1)])), ((q 122), .inr (7, [.ref (q 126), .int 0, .int (-1)])), ((q 123), .inr (7, [.ref (q 127), .int 0, .int (-1)]))] H := hP
            have hD : va_D A [((q 1), .inl (k 3, 4, .inr (.inr (.inr (.inr (fun i => some (q (120 + i)))))))), ((q 120), .inr (7, [.ref (q 124), .int 0, .int (-1)])), ((q 121), .inr (7, [.ref (q 125), .int 0, .int (-1)])), ((q 122), .inr (7, [.ref (q 126), .int 0, .int (-1)])), ((q 123), .inr (7, [.ref (q 127), .int 0, .int (-1)]))] := hD
            refine W.eq (g2 := F0 m 33 ls [.int 0]) rfl ?_
            exact EWz hx hb hr hlocks hS () rfl rfl trivial nil_P nil_D dX11_pour_33
          ·
            refine lv_iload hx hb dX11_pour_18 (lv_at hl 4 rfl) ?_
            refine lv_if_lt (tgt := 28) hx hb dX11_pour_20 (by decide) (fun c_44 => ?_) (fun c_44 => ?_)
            ·
              refine lv_aload_n hx hb dX11_pour_28 rfl (lv_at hl 0 rfl) ?_
              refine lv_iconst (v := 1) hx hb dX11_pour_29 (by decide) ?_
              refine CWV (As := [.int 1]) (rest := []) (wc := [((q 0), .inr (11, [.ref (q 1), .ref (q 2), .ref (q 3), .ref (q 4), .ref (q 5), .ref (q 6), .ref (q 7), .ref (q 8), .ref (q 9), .ref (q 10), .ref (q 11), .int 0, .int 0, .int 0, .long 0, .long 1]))]) (wr := [((q 1), .inl (k 3, 4, .inr (.inr (.inr (.inr (fun i => some (q (120 + i)))))))), ((q 120), .inr (7, [.ref (q 124), .int 0, .int (-1)])), ((q 121), .inr (7, [.ref (q 125), .int 0, .int (-1)])), ((q 122), .inr (7, [.ref (q 126), .int 0, .int (-1)])), ((q 123), .inr (7, [.ref (q 127), .int 0, .int (-1)]))]) hx hb hml hown hts hKK hP hD hS hA (c_deny l D k (q 0) [.ref (q 1), .ref (q 2), .ref (q 3), .ref (q 4), .ref (q 5), .ref (q 6), .ref (q 7), .ref (q 8), .ref (q 9), .ref (q 10), .ref (q 11), .int 0, .int 0, .int 0, .long 0, .long 1] (Nat.le_of_ble_eq_true rfl) 1) ci_X11_deny qm_X11_107 ⟨Nat.le_of_ble_eq_true rfl, Nat.le_of_ble_eq_true rfl⟩ ⟨Nat.le_of_ble_eq_true rfl, Nat.le_of_ble_eq_true rfl⟩ [0] [1, 2, 3, 4, 5] rfl rfl rfl rfl rfl (by decide) 0 rfl rfl rfl hl.1 rfl (Nat.le_of_ble_eq_true rfl) dX11_pour_30 (fun u_45 H locs hφ hP hD hS => ?_)
              have hP : va_P D vwCl [((q 1), .inl (k 3, 4, .inr (.inr (.inr (.inr (fun i => some (q (120 + i)))))))), ((q 120), .inr (7, [.ref (q 124), .int 0, .int (-1)])), ((q 121), .inr (7, [.ref (q 125), .int 0, .int (-1)])), ((q 122), .inr (7, [.ref (q 126), .int 0, .int (-1)])), ((q 123), .inr (7, [.ref (q 127), .int 0, .int (-1)]))] H := hP
              have hD : va_D A [((q 1), .inl (k 3, 4, .inr (.inr (.inr (.inr (fun i => some (q (120 + i)))))))), ((q 120), .inr (7, [.ref (q 124), .int 0, .int (-1)])), ((q 121), .inr (7, [.ref (q 125), .int 0, .int (-1)])), ((q 122), .inr (7, [.ref (q 126), .int 0, .int (-1)])), ((q 123), .inr (7, [.ref (q 127), .int 0, .int (-1)]))] := hD
              refine W.eq (g2 := F0 m 33 ls [.int 0]) rfl ?_
              exact EWz hx hb hr hlocks hS () rfl rfl trivial nil_P nil_D dX11_pour_33
            ·
              refine lv_iload hx hb dX11_pour_23 (lv_at hl 5 rfl) ?_
              refine lv_if_ge (tgt := 34) hx hb dX11_pour_25 (by decide) (fun c_46 => ?_) (fun c_46 => ?_)
              ·
                refine lv_aload_n hx hb dX11_pour_34 rfl (lv_at hl 0 rfl) ?_
                refine va_get (D := D) (ci := 11) (v := .ref (q 1)) (C := RX11) (T := TX11) (N := 16) hx hb hts iX11 hown hK hP 0 rfl rfl 0 (by decide) (hts _ qf_X11_11) (fun _ h => h) rfl dX11_pour_35 ?_
                refine lv_iload_n hx hb dX11_pour_38 rfl (lv_at hl 1 rfl) ?_
                refine va_aldq hx hb hK hP 1 3 rfl rfl (xin 1 4 rfl (by decide) (by decide)) dX11_pour_39 ?_
                refine W.eq (g2 := F0 m 40 ls [.ref (q 121)]) rfl ?_
                refine lv_astore (lv' := [(6, .ref (q 121)), (0, .ref (q 0)), (1, .int 1), (2, .int b), (3, .int 1), (4, .int d1), (5, .int e1)]) hx hb dX11_pour_40 hl (by decide) rfl (fun ls hl => ?_)
                refine lv_aload_n hx hb dX11_pour_42 rfl (lv_at hl 1 rfl) ?_
                refine va_get (D := D) (ci := 11) (v := .ref (q 1)) (C := RX11) (T := TX11) (N := 16) hx hb hts iX11 hown hK hP 0 rfl rfl 0 (by decide) (hts _ qf_X11_11) (fun _ h => h) rfl dX11_pour_43 ?_
                refine lv_iload_n hx hb dX11_pour_46 rfl (lv_at hl 4 rfl) ?_
                refine va_aldq hx hb hK hP 1 3 rfl rfl (xin 1 4 rfl (by decide) (by decide)) dX11_pour_47 ?_
                refine W.eq (g2 := F0 m 48 ls [.ref (q 121)]) rfl ?_
                refine lv_astore (lv' := [(7, .ref (q 121)), (6, .ref (q 121)), (0, .ref (q 0)), (1, .int 1), (2, .int b), (3, .int 1), (4, .int d1), (5, .int e1)]) hx hb dX11_pour_48 hl (by decide) rfl (fun ls hl => ?_)
                refine lv_aload hx hb dX11_pour_50 (lv_at hl 1 rfl) ?_
                refine CRV (As := []) (rest := []) hx hb hml hown hts hKK (hP.sub (ws' := [((q 121), .inr (7, [.ref (q 125), .int 0, .int (-1)]))]) [3] rfl) (c_isMissing l D k (q 121) [.ref (q 125), .int 0, .int (-1)] rfl) ci_X7_isMissing qm_X11_134 ⟨Nat.le_of_ble_eq_true rfl, Nat.le_of_ble_eq_true rfl⟩ ⟨Nat.le_of_ble_eq_true rfl, Nat.le_of_ble_eq_true rfl⟩ 0 rfl rfl rfl hl.1 rfl (Nat.le_of_ble_eq_true rfl) dX11_pour_52 ?_
                refine lv_if_ne (tgt := 66) hx hb dX11_pour_55 (by decide) (fun _ => ?_) (fun c => absurd c (by decide))
                refine lv_aload_n hx hb dX11_pour_66 rfl (lv_at hl 2 rfl) ?_
                refine lv_iconst (v := 2) hx hb dX11_pour_67 (by decide) ?_
                refine CWV (As := [.int 2]) (rest := []) (wc := [((q 0), .inr (11, [.ref (q 1), .ref (q 2), .ref (q 3), .ref (q 4), .ref (q 5), .ref (q 6), .ref (q 7), .ref (q 8), .ref (q 9), .ref (q 10), .ref (q 11), .int 0, .int 0, .int 0, .long 0, .long 1]))]) (wr := [((q 1), .inl (k 3, 4, .inr (.inr (.inr (.inr (fun i => some (q (120 + i)))))))), ((q 120), .inr (7, [.ref (q 124), .int 0, .int (-1)])), ((q 121), .inr (7, [.ref (q 125), .int 0, .int (-1)])), ((q 122), .inr (7, [.ref (q 126), .int 0, .int (-1)])), ((q 123), .inr (7, [.ref (q 127), .int 0, .int (-1)]))]) hx hb hml hown hts hKK hP hD hS hA (c_deny l D k (q 0) [.ref (q 1), .ref (q 2), .ref (q 3), .ref (q 4), .ref (q 5), .ref (q 6), .ref (q 7), .ref (q 8), .ref (q 9), .ref (q 10), .ref (q 11), .int 0, .int 0, .int 0, .long 0, .long 1] (Nat.le_of_ble_eq_true rfl) 2) ci_X11_deny qm_X11_107 ⟨Nat.le_of_ble_eq_true rfl, Nat.le_of_ble_eq_true rfl⟩ ⟨Nat.le_of_ble_eq_true rfl, Nat.le_of_ble_eq_true rfl⟩ [0] [1, 2, 3, 4, 5] rfl rfl rfl rfl rfl (by decide) 0 rfl rfl rfl hl.1 rfl (Nat.le_of_ble_eq_true rfl) dX11_pour_68 (fun u_47 H locs hφ hP hD hS => ?_)
                have hP : va_P D vwCl [((q 1), .inl (k 3, 4, .inr (.inr (.inr (.inr (fun i => some (q (120 + i)))))))), ((q 120), .inr (7, [.ref (q 124), .int 0, .int (-1)])), ((q 121), .inr (7, [.ref (q 125), .int 0, .int (-1)])), ((q 122), .inr (7, [.ref (q 126), .int 0, .int (-1)])), ((q 123), .inr (7, [.ref (q 127), .int 0, .int (-1)]))] H := hP
                have hD : va_D A [((q 1), .inl (k 3, 4, .inr (.inr (.inr (.inr (fun i => some (q (120 + i)))))))), ((q 120), .inr (7, [.ref (q 124), .int 0, .int (-1)])), ((q 121), .inr (7, [.ref (q 125), .int 0, .int (-1)])), ((q 122), .inr (7, [.ref (q 126), .int 0, .int (-1)])), ((q 123), .inr (7, [.ref (q 127), .int 0, .int (-1)]))] := hD
                refine W.eq (g2 := F0 m 71 ls [.int 0]) rfl ?_
                exact EWz hx hb hr hlocks hS () rfl rfl trivial nil_P nil_D dX11_pour_71
              ·
                refine lv_aload_n hx hb dX11_pour_28 rfl (lv_at hl 0 rfl) ?_
                refine lv_iconst (v := 1) hx hb dX11_pour_29 (by decide) ?_
                refine CWV (As := [.int 1]) (rest := []) (wc := [((q 0), .inr (11, [.ref (q 1), .ref (q 2), .ref (q 3), .ref (q 4), .ref (q 5), .ref (q 6), .ref (q 7), .ref (q 8), .ref (q 9), .ref (q 10), .ref (q 11), .int 0, .int 0, .int 0, .long 0, .long 1]))]) (wr := [((q 1), .inl (k 3, 4, .inr (.inr (.inr (.inr (fun i => some (q (120 + i)))))))), ((q 120), .inr (7, [.ref (q 124), .int 0, .int (-1)])), ((q 121), .inr (7, [.ref (q 125), .int 0, .int (-1)])), ((q 122), .inr (7, [.ref (q 126), .int 0, .int (-1)])), ((q 123), .inr (7, [.ref (q 127), .int 0, .int (-1)]))]) hx hb hml hown hts hKK hP hD hS hA (c_deny l D k (q 0) [.ref (q 1), .ref (q 2), .ref (q 3), .ref (q 4), .ref (q 5), .ref (q 6), .ref (q 7), .ref (q 8), .ref (q 9), .ref (q 10), .ref (q 11), .int 0, .int 0, .int 0, .long 0, .long 1] (Nat.le_of_ble_eq_true rfl) 1) ci_X11_deny qm_X11_107 ⟨Nat.le_of_ble_eq_true rfl, Nat.le_of_ble_eq_true rfl⟩ ⟨Nat.le_of_ble_eq_true rfl, Nat.le_of_ble_eq_true rfl⟩ [0] [1, 2, 3, 4, 5] rfl rfl rfl rfl rfl (by decide) 0 rfl rfl rfl hl.1 rfl (Nat.le_of_ble_eq_true rfl) dX11_pour_30 (fun u_48 H locs hφ hP hD hS => ?_)
                have hP : va_P D vwCl [((q 1), .inl (k 3, 4, .inr (.inr (.inr (.inr (fun i => some (q (120 + i)))))))), ((q 120), .inr (7, [.ref (q 124), .int 0, .int (-1)])), ((q 121), .inr (7, [.ref (q 125), .int 0, .int (-1)])), ((q 122), .inr (7, [.ref (q 126), .int 0, .int (-1)])), ((q 123), .inr (7, [.ref (q 127), .int 0, .int (-1)]))] H := hP
                have hD : va_D A [((q 1), .inl (k 3, 4, .inr (.inr (.inr (.inr (fun i => some (q (120 + i)))))))), ((q 120), .inr (7, [.ref (q 124), .int 0, .int (-1)])), ((q 121), .inr (7, [.ref (q 125), .int 0, .int (-1)])), ((q 122), .inr (7, [.ref (q 126), .int 0, .int (-1)])), ((q 123), .inr (7, [.ref (q 127), .int 0, .int (-1)]))] := hD
                refine W.eq (g2 := F0 m 33 ls [.int 0]) rfl ?_
                exact EWz hx hb hr hlocks hS () rfl rfl trivial nil_P nil_D dX11_pour_33
        ·
          refine lv_iload_n hx hb dX11_pour_14 rfl (lv_at hl 2 rfl) ?_
          refine lv_if_lt (tgt := 28) hx hb dX11_pour_15 (by decide) (fun c_49 => ?_) (fun c_49 => ?_)
          ·
            refine lv_aload_n hx hb dX11_pour_28 rfl (lv_at hl 0 rfl) ?_
            refine lv_iconst (v := 1) hx hb dX11_pour_29 (by decide) ?_
            refine CWV (As := [.int 1]) (rest := []) (wc := [((q 0), .inr (11, [.ref (q 1), .ref (q 2), .ref (q 3), .ref (q 4), .ref (q 5), .ref (q 6), .ref (q 7), .ref (q 8), .ref (q 9), .ref (q 10), .ref (q 11), .int 0, .int 0, .int 0, .long 0, .long 1]))]) (wr := [((q 1), .inl (k 3, 4, .inr (.inr (.inr (.inr (fun i => some (q (120 + i)))))))), ((q 120), .inr (7, [.ref (q 124), .int 0, .int (-1)])), ((q 121), .inr (7, [.ref (q 125), .int 0, .int (-1)])), ((q 122), .inr (7, [.ref (q 126), .int 0, .int (-1)])), ((q 123), .inr (7, [.ref (q 127), .int 0, .int (-1)]))]) hx hb hml hown hts hKK hP hD hS hA (c_deny l D k (q 0) [.ref (q 1), .ref (q 2), .ref (q 3), .ref (q 4), .ref (q 5), .ref (q 6), .ref (q 7), .ref (q 8), .ref (q 9), .ref (q 10), .ref (q 11), .int 0, .int 0, .int 0, .long 0, .long 1] (Nat.le_of_ble_eq_true rfl) 1) ci_X11_deny qm_X11_107 ⟨Nat.le_of_ble_eq_true rfl, Nat.le_of_ble_eq_true rfl⟩ ⟨Nat.le_of_ble_eq_true rfl, Nat.le_of_ble_eq_true rfl⟩ [0] [1, 2, 3, 4, 5] rfl rfl rfl rfl rfl (by decide) 0 rfl rfl rfl hl.1 rfl (Nat.le_of_ble_eq_true rfl) dX11_pour_30 (fun u_50 H locs hφ hP hD hS => ?_)
            have hP : va_P D vwCl [((q 1), .inl (k 3, 4, .inr (.inr (.inr (.inr (fun i => some (q (120 + i)))))))), ((q 120), .inr (7, [.ref (q 124), .int 0, .int (-1)])), ((q 121), .inr (7, [.ref (q 125), .int 0, .int (-1)])), ((q 122), .inr (7, [.ref (q 126), .int 0, .int (-1)])), ((q 123), .inr (7, [.ref (q 127), .int 0, .int (-1)]))] H := hP
            have hD : va_D A [((q 1), .inl (k 3, 4, .inr (.inr (.inr (.inr (fun i => some (q (120 + i)))))))), ((q 120), .inr (7, [.ref (q 124), .int 0, .int (-1)])), ((q 121), .inr (7, [.ref (q 125), .int 0, .int (-1)])), ((q 122), .inr (7, [.ref (q 126), .int 0, .int (-1)])), ((q 123), .inr (7, [.ref (q 127), .int 0, .int (-1)]))] := hD
            refine W.eq (g2 := F0 m 33 ls [.int 0]) rfl ?_
            exact EWz hx hb hr hlocks hS () rfl rfl trivial nil_P nil_D dX11_pour_33
          ·
            refine lv_iload hx hb dX11_pour_18 (lv_at hl 4 rfl) ?_
            refine lv_if_lt (tgt := 28) hx hb dX11_pour_20 (by decide) (fun c_51 => ?_) (fun c_51 => ?_)
            ·
              refine lv_aload_n hx hb dX11_pour_28 rfl (lv_at hl 0 rfl) ?_
              refine lv_iconst (v := 1) hx hb dX11_pour_29 (by decide) ?_
              refine CWV (As := [.int 1]) (rest := []) (wc := [((q 0), .inr (11, [.ref (q 1), .ref (q 2), .ref (q 3), .ref (q 4), .ref (q 5), .ref (q 6), .ref (q 7), .ref (q 8), .ref (q 9), .ref (q 10), .ref (q 11), .int 0, .int 0, .int 0, .long 0, .long 1]))]) (wr := [((q 1), .inl (k 3, 4, .inr (.inr (.inr (.inr (fun i => some (q (120 + i)))))))), ((q 120), .inr (7, [.ref (q 124), .int 0, .int (-1)])), ((q 121), .inr (7, [.ref (q 125), .int 0, .int (-1)])), ((q 122), .inr (7, [.ref (q 126), .int 0, .int (-1)])), ((q 123), .inr (7, [.ref (q 127), .int 0, .int (-1)]))]) hx hb hml hown hts hKK hP hD hS hA (c_deny l D k (q 0) [.ref (q 1), .ref (q 2), .ref (q 3), .ref (q 4), .ref (q 5), .ref (q 6), .ref (q 7), .ref (q 8), .ref (q 9), .ref (q 10), .ref (q 11), .int 0, .int 0, .int 0, .long 0, .long 1] (Nat.le_of_ble_eq_true rfl) 1) ci_X11_deny qm_X11_107 ⟨Nat.le_of_ble_eq_true rfl, Nat.le_of_ble_eq_true rfl⟩ ⟨Nat.le_of_ble_eq_true rfl, Nat.le_of_ble_eq_true rfl⟩ [0] [1, 2, 3, 4, 5] rfl rfl rfl rfl rfl (by decide) 0 rfl rfl rfl hl.1 rfl (Nat.le_of_ble_eq_true rfl) dX11_pour_30 (fun u_52 H locs hφ hP hD hS => ?_)
              have hP : va_P D vwCl [((q 1), .inl (k 3, 4, .inr (.inr (.inr (.inr (fun i => some (q (120 + i)))))))), ((q 120), .inr (7, [.ref (q 124), .int 0, .int (-1)])), ((q 121), .inr (7, [.ref (q 125), .int 0, .int (-1)])), ((q 122), .inr (7, [.ref (q 126), .int 0, .int (-1)])), ((q 123), .inr (7, [.ref (q 127), .int 0, .int (-1)]))] H := hP
              have hD : va_D A [((q 1), .inl (k 3, 4, .inr (.inr (.inr (.inr (fun i => some (q (120 + i)))))))), ((q 120), .inr (7, [.ref (q 124), .int 0, .int (-1)])), ((q 121), .inr (7, [.ref (q 125), .int 0, .int (-1)])), ((q 122), .inr (7, [.ref (q 126), .int 0, .int (-1)])), ((q 123), .inr (7, [.ref (q 127), .int 0, .int (-1)]))] := hD
              refine W.eq (g2 := F0 m 33 ls [.int 0]) rfl ?_
              exact EWz hx hb hr hlocks hS () rfl rfl trivial nil_P nil_D dX11_pour_33
            ·
              refine lv_iload hx hb dX11_pour_23 (lv_at hl 5 rfl) ?_
              refine lv_if_ge (tgt := 34) hx hb dX11_pour_25 (by decide) (fun c_53 => ?_) (fun c_53 => ?_)
              ·
                refine lv_aload_n hx hb dX11_pour_34 rfl (lv_at hl 0 rfl) ?_
                refine va_get (D := D) (ci := 11) (v := .ref (q 1)) (C := RX11) (T := TX11) (N := 16) hx hb hts iX11 hown hK hP 0 rfl rfl 0 (by decide) (hts _ qf_X11_11) (fun _ h => h) rfl dX11_pour_35 ?_
                refine lv_iload_n hx hb dX11_pour_38 rfl (lv_at hl 1 rfl) ?_
                refine va_aldq hx hb hK hP 1 3 rfl rfl (xin 1 4 rfl (by decide) (by decide)) dX11_pour_39 ?_
                refine W.eq (g2 := F0 m 40 ls [.ref (q 121)]) rfl ?_
                refine lv_astore (lv' := [(6, .ref (q 121)), (0, .ref (q 0)), (1, .int 1), (2, .int b), (3, .int 2), (4, .int d1), (5, .int e1)]) hx hb dX11_pour_40 hl (by decide) rfl (fun ls hl => ?_)
                refine lv_aload_n hx hb dX11_pour_42 rfl (lv_at hl 1 rfl) ?_
                refine va_get (D := D) (ci := 11) (v := .ref (q 1)) (C := RX11) (T := TX11) (N := 16) hx hb hts iX11 hown hK hP 0 rfl rfl 0 (by decide) (hts _ qf_X11_11) (fun _ h => h) rfl dX11_pour_43 ?_
                refine lv_iload_n hx hb dX11_pour_46 rfl (lv_at hl 4 rfl) ?_
                refine va_aldq hx hb hK hP 1 3 rfl rfl (xin 2 4 rfl (by decide) (by decide)) dX11_pour_47 ?_
                refine W.eq (g2 := F0 m 48 ls [.ref (q 122)]) rfl ?_
                refine lv_astore (lv' := [(7, .ref (q 122)), (6, .ref (q 121)), (0, .ref (q 0)), (1, .int 1), (2, .int b), (3, .int 2), (4, .int d1), (5, .int e1)]) hx hb dX11_pour_48 hl (by decide) rfl (fun ls hl => ?_)
                refine lv_aload hx hb dX11_pour_50 (lv_at hl 1 rfl) ?_
                refine CRV (As := []) (rest := []) hx hb hml hown hts hKK (hP.sub (ws' := [((q 121), .inr (7, [.ref (q 125), .int 0, .int (-1)]))]) [3] rfl) (c_isMissing l D k (q 121) [.ref (q 125), .int 0, .int (-1)] rfl) ci_X7_isMissing qm_X11_134 ⟨Nat.le_of_ble_eq_true rfl, Nat.le_of_ble_eq_true rfl⟩ ⟨Nat.le_of_ble_eq_true rfl, Nat.le_of_ble_eq_true rfl⟩ 0 rfl rfl rfl hl.1 rfl (Nat.le_of_ble_eq_true rfl) dX11_pour_52 ?_
                refine lv_if_ne (tgt := 66) hx hb dX11_pour_55 (by decide) (fun _ => ?_) (fun c => absurd c (by decide))
                refine lv_aload_n hx hb dX11_pour_66 rfl (lv_at hl 2 rfl) ?_
                refine lv_iconst (v := 2) hx hb dX11_pour_67 (by decide) ?_
                refine CWV (As := [.int 2]) (rest := []) (wc := [((q 0), .inr (11, [.ref (q 1), .ref (q 2), .ref (q 3), .ref (q 4), .ref (q 5), .ref (q 6), .ref (q 7), .ref (q 8), .ref (q 9), .ref (q 10), .ref (q 11), .int 0, .int 0, .int 0, .long 0, .long 1]))]) (wr := [((q 1), .inl (k 3, 4, .inr (.inr (.inr (.inr (fun i => some (q (120 + i)))))))), ((q 120), .inr (7, [.ref (q 124), .int 0, .int (-1)])), ((q 121), .inr (7, [.ref (q 125), .int 0, .int (-1)])), ((q 122), .inr (7, [.ref (q 126), .int 0, .int (-1)])), ((q 123), .inr (7, [.ref (q 127), .int 0, .int (-1)]))]) hx hb hml hown hts hKK hP hD hS hA (c_deny l D k (q 0) [.ref (q 1), .ref (q 2), .ref (q 3), .ref (q 4), .ref (q 5), .ref (q 6), .ref (q 7), .ref (q 8), .ref (q 9), .ref (q 10), .ref (q 11), .int 0, .int 0, .int 0, .long 0, .long 1] (Nat.le_of_ble_eq_true rfl) 2) ci_X11_deny qm_X11_107 ⟨Nat.le_of_ble_eq_true rfl, Nat.le_of_ble_eq_true rfl⟩ ⟨Nat.le_of_ble_eq_true rfl, Nat.le_of_ble_eq_true rfl⟩ [0] [1, 2, 3, 4, 5] rfl rfl rfl rfl rfl (by decide) 0 rfl rfl rfl hl.1 rfl (Nat.le_of_ble_eq_true rfl) dX11_pour_68 (fun u_54 H locs hφ hP hD hS => ?_)
                have hP : va_P D vwCl [((q 1), .inl (k 3, 4, .inr (.inr (.inr (.inr (fun i => some (q (120 + i)))))))), ((q 120), .inr (7, [.ref (q 124), .int 0, .int (-1)])), ((q 121), .inr (7, [.ref (q 125), .int 0, .int (-1)])), ((q 122), .inr (7, [.ref (q 126), .int 0, .int (-1)])), ((q 123), .inr (7, [.ref (q 127), .int 0, .int (-1)]))] H := hP
                have hD : va_D A [((q 1), .inl (k 3, 4, .inr (.inr (.inr (.inr (fun i => some (q (120 + i)))))))), ((q 120), .inr (7, [.ref (q 124), .int 0, .int (-1)])), ((q 121), .inr (7, [.ref (q 125), .int 0, .int (-1)])), ((q 122), .inr (7, [.ref (q 126), .int 0, .int (-1)])), ((q 123), .inr (7, [.ref (q 127), .int 0, .int (-1)]))] := hD
                refine W.eq (g2 := F0 m 71 ls [.int 0]) rfl ?_
                exact EWz hx hb hr hlocks hS () rfl rfl trivial nil_P nil_D dX11_pour_71
              ·
                refine lv_aload_n hx hb dX11_pour_28 rfl (lv_at hl 0 rfl) ?_
                refine lv_iconst (v := 1) hx hb dX11_pour_29 (by decide) ?_
                refine CWV (As := [.int 1]) (rest := []) (wc := [((q 0), .inr (11, [.ref (q 1), .ref (q 2), .ref (q 3), .ref (q 4), .ref (q 5), .ref (q 6), .ref (q 7), .ref (q 8), .ref (q 9), .ref (q 10), .ref (q 11), .int 0, .int 0, .int 0, .long 0, .long 1]))]) (wr := [((q 1), .inl (k 3, 4, .inr (.inr (.inr (.inr (fun i => some (q (120 + i)))))))), ((q 120), .inr (7, [.ref (q 124), .int 0, .int (-1)])), ((q 121), .inr (7, [.ref (q 125), .int 0, .int (-1)])), ((q 122), .inr (7, [.ref (q 126), .int 0, .int (-1)])), ((q 123), .inr (7, [.ref (q 127), .int 0, .int (-1)]))]) hx hb hml hown hts hKK hP hD hS hA (c_deny l D k (q 0) [.ref (q 1), .ref (q 2), .ref (q 3), .ref (q 4), .ref (q 5), .ref (q 6), .ref (q 7), .ref (q 8), .ref (q 9), .ref (q 10), .ref (q 11), .int 0, .int 0, .int 0, .long 0, .long 1] (Nat.le_of_ble_eq_true rfl) 1) ci_X11_deny qm_X11_107 ⟨Nat.le_of_ble_eq_true rfl, Nat.le_of_ble_eq_true rfl⟩ ⟨Nat.le_of_ble_eq_true rfl, Nat.le_of_ble_eq_true rfl⟩ [0] [1, 2, 3, 4, 5] rfl rfl rfl rfl rfl (by decide) 0 rfl rfl rfl hl.1 rfl (Nat.le_of_ble_eq_true rfl) dX11_pour_30 (fun u_55 H locs hφ hP hD hS => ?_)
                have hP : va_P D vwCl [((q 1), .inl (k 3, 4, .inr (.inr (.inr (.inr (fun i => some (q (120 + i)))))))), ((q 120), .inr (7, [.ref (q 124), .int 0, .int (-1)])), ((q 121), .inr (7, [.ref (q 125), .int 0, .int (-1)])), ((q 122), .inr (7, [.ref (q 126), .int 0, .int (-1)])), ((q 123), .inr (7, [.ref (q 127), .int 0, .int (-1)]))] H := hP
                have hD : va_D A [((q 1), .inl (k 3, 4, .inr (.inr (.inr (.inr (fun i => some (q (120 + i)))))))), ((q 120), .inr (7, [.ref (q 124), .int 0, .int (-1)])), ((q 121), .inr (7, [.ref (q 125), .int 0, .int (-1)])), ((q 122), .inr (7, [.ref (q 126), .int 0, .int (-1)])), ((q 123), .inr (7, [.ref (q 127), .int 0, .int (-1)]))] := hD
                refine W.eq (g2 := F0 m 33 ls [.int 0]) rfl ?_
                exact EWz hx hb hr hlocks hS () rfl rfl trivial nil_P nil_D dX11_pour_33
        ·
          refine lv_iload_n hx hb dX11_pour_14 rfl (lv_at hl 2 rfl) ?_
          refine lv_if_lt (tgt := 28) hx hb dX11_pour_15 (by decide) (fun c_56 => ?_) (fun c_56 => ?_)
          ·
            refine lv_aload_n hx hb dX11_pour_28 rfl (lv_at hl 0 rfl) ?_
            refine lv_iconst (v := 1) hx hb dX11_pour_29 (by decide) ?_
            refine CWV (As := [.int 1]) (rest := []) (wc := [((q 0), .inr (11, [.ref (q 1), .ref (q 2), .ref (q 3), .ref (q 4), .ref (q 5), .ref (q 6), .ref (q 7), .ref (q 8), .ref (q 9), .ref (q 10), .ref (q 11), .int 0, .int 0, .int 0, .long 0, .long 1]))]) (wr := [((q 1), .inl (k 3, 4, .inr (.inr (.inr (.inr (fun i => some (q (120 + i)))))))), ((q 120), .inr (7, [.ref (q 124), .int 0, .int (-1)])), ((q 121), .inr (7, [.ref (q 125), .int 0, .int (-1)])), ((q 122), .inr (7, [.ref (q 126), .int 0, .int (-1)])), ((q 123), .inr (7, [.ref (q 127), .int 0, .int (-1)]))]) hx hb hml hown hts hKK hP hD hS hA (c_deny l D k (q 0) [.ref (q 1), .ref (q 2), .ref (q 3), .ref (q 4), .ref (q 5), .ref (q 6), .ref (q 7), .ref (q 8), .ref (q 9), .ref (q 10), .ref (q 11), .int 0, .int 0, .int 0, .long 0, .long 1] (Nat.le_of_ble_eq_true rfl) 1) ci_X11_deny qm_X11_107 ⟨Nat.le_of_ble_eq_true rfl, Nat.le_of_ble_eq_true rfl⟩ ⟨Nat.le_of_ble_eq_true rfl, Nat.le_of_ble_eq_true rfl⟩ [0] [1, 2, 3, 4, 5] rfl rfl rfl rfl rfl (by decide) 0 rfl rfl rfl hl.1 rfl (Nat.le_of_ble_eq_true rfl) dX11_pour_30 (fun u_57 H locs hφ hP hD hS => ?_)
            have hP : va_P D vwCl [((q 1), .inl (k 3, 4, .inr (.inr (.inr (.inr (fun i => some (q (120 + i)))))))), ((q 120), .inr (7, [.ref (q 124), .int 0, .int (-1)])), ((q 121), .inr (7, [.ref (q 125), .int 0, .int (-1)])), ((q 122), .inr (7, [.ref (q 126), .int 0, .int (-1)])), ((q 123), .inr (7, [.ref (q 127), .int 0, .int (-1)]))] H := hP
            have hD : va_D A [((q 1), .inl (k 3, 4, .inr (.inr (.inr (.inr (fun i => some (q (120 + i)))))))), ((q 120), .inr (7, [.ref (q 124), .int 0, .int (-1)])), ((q 121), .inr (7, [.ref (q 125), .int 0, .int (-1)])), ((q 122), .inr (7, [.ref (q 126), .int 0, .int (-1)])), ((q 123), .inr (7, [.ref (q 127), .int 0, .int (-1)]))] := hD
            refine W.eq (g2 := F0 m 33 ls [.int 0]) rfl ?_
            exact EWz hx hb hr hlocks hS () rfl rfl trivial nil_P nil_D dX11_pour_33
          ·
            refine lv_iload hx hb dX11_pour_18 (lv_at hl 4 rfl) ?_
            refine lv_if_lt (tgt := 28) hx hb dX11_pour_20 (by decide) (fun c_58 => ?_) (fun c_58 => ?_)
            ·
              refine lv_aload_n hx hb dX11_pour_28 rfl (lv_at hl 0 rfl) ?_
              refine lv_iconst (v := 1) hx hb dX11_pour_29 (by decide) ?_
              refine CWV (As := [.int 1]) (rest := []) (wc := [((q 0), .inr (11, [.ref (q 1), .ref (q 2), .ref (q 3), .ref (q 4), .ref (q 5), .ref (q 6), .ref (q 7), .ref (q 8), .ref (q 9), .ref (q 10), .ref (q 11), .int 0, .int 0, .int 0, .long 0, .long 1]))]) (wr := [((q 1), .inl (k 3, 4, .inr (.inr (.inr (.inr (fun i => some (q (120 + i)))))))), ((q 120), .inr (7, [.ref (q 124), .int 0, .int (-1)])), ((q 121), .inr (7, [.ref (q 125), .int 0, .int (-1)])), ((q 122), .inr (7, [.ref (q 126), .int 0, .int (-1)])), ((q 123), .inr (7, [.ref (q 127), .int 0, .int (-1)]))]) hx hb hml hown hts hKK hP hD hS hA (c_deny l D k (q 0) [.ref (q 1), .ref (q 2), .ref (q 3), .ref (q 4), .ref (q 5), .ref (q 6), .ref (q 7), .ref (q 8), .ref (q 9), .ref (q 10), .ref (q 11), .int 0, .int 0, .int 0, .long 0, .long 1] (Nat.le_of_ble_eq_true rfl) 1) ci_X11_deny qm_X11_107 ⟨Nat.le_of_ble_eq_true rfl, Nat.le_of_ble_eq_true rfl⟩ ⟨Nat.le_of_ble_eq_true rfl, Nat.le_of_ble_eq_true rfl⟩ [0] [1, 2, 3, 4, 5] rfl rfl rfl rfl rfl (by decide) 0 rfl rfl rfl hl.1 rfl (Nat.le_of_ble_eq_true rfl) dX11_pour_30 (fun u_59 H locs hφ hP hD hS => ?_)
              have hP : va_P D vwCl [((q 1), .inl (k 3, 4, .inr (.inr (.inr (.inr (fun i => some (q (120 + i)))))))), ((q 120), .inr (7, [.ref (q 124), .int 0, .int (-1)])), ((q 121), .inr (7, [.ref (q 125), .int 0, .int (-1)])), ((q 122), .inr (7, [.ref (q 126), .int 0, .int (-1)])), ((q 123), .inr (7, [.ref (q 127), .int 0, .int (-1)]))] H := hP
              have hD : va_D A [((q 1), .inl (k 3, 4, .inr (.inr (.inr (.inr (fun i => some (q (120 + i)))))))), ((q 120), .inr (7, [.ref (q 124), .int 0, .int (-1)])), ((q 121), .inr (7, [.ref (q 125), .int 0, .int (-1)])), ((q 122), .inr (7, [.ref (q 126), .int 0, .int (-1)])), ((q 123), .inr (7, [.ref (q 127), .int 0, .int (-1)]))] := hD
              refine W.eq (g2 := F0 m 33 ls [.int 0]) rfl ?_
              exact EWz hx hb hr hlocks hS () rfl rfl trivial nil_P nil_D dX11_pour_33
            ·
              refine lv_iload hx hb dX11_pour_23 (lv_at hl 5 rfl) ?_
              refine lv_if_ge (tgt := 34) hx hb dX11_pour_25 (by decide) (fun c_60 => ?_) (fun c_60 => ?_)
              ·
                refine lv_aload_n hx hb dX11_pour_34 rfl (lv_at hl 0 rfl) ?_
                refine va_get (D := D) (ci := 11) (v := .ref (q 1)) (C := RX11) (T := TX11) (N := 16) hx hb hts iX11 hown hK hP 0 rfl rfl 0 (by decide) (hts _ qf_X11_11) (fun _ h => h) rfl dX11_pour_35 ?_
                refine lv_iload_n hx hb dX11_pour_38 rfl (lv_at hl 1 rfl) ?_
                refine va_aldq hx hb hK hP 1 3 rfl rfl (xin 1 4 rfl (by decide) (by decide)) dX11_pour_39 ?_
                refine W.eq (g2 := F0 m 40 ls [.ref (q 121)]) rfl ?_
                refine lv_astore (lv' := [(6, .ref (q 121)), (0, .ref (q 0)), (1, .int 1), (2, .int b), (3, .int 3), (4, .int d1), (5, .int e1)]) hx hb dX11_pour_40 hl (by decide) rfl (fun ls hl => ?_)
                refine lv_aload_n hx hb dX11_pour_42 rfl (lv_at hl 1 rfl) ?_
                refine va_get (D := D) (ci := 11) (v := .ref (q 1)) (C := RX11) (T := TX11) (N := 16) hx hb hts iX11 hown hK hP 0 rfl rfl 0 (by decide) (hts _ qf_X11_11) (fun _ h => h) rfl dX11_pour_43 ?_
                refine lv_iload_n hx hb dX11_pour_46 rfl (lv_at hl 4 rfl) ?_
                refine va_aldq hx hb hK hP 1 3 rfl rfl (xin 3 4 rfl (by decide) (by decide)) dX11_pour_47 ?_
                refine W.eq (g2 := F0 m 48 ls [.ref (q 123)]) rfl ?_
                refine lv_astore (lv' := [(7, .ref (q 123)), (6, .ref (q 121)), (0, .ref (q 0)), (1, .int 1), (2, .int b), (3, .int 3), (4, .int d1), (5, .int e1)]) hx hb dX11_pour_48 hl (by decide) rfl (fun ls hl => ?_)
                refine lv_aload hx hb dX11_pour_50 (lv_at hl 1 rfl) ?_
                refine CRV (As := []) (rest := []) hx hb hml hown hts hKK (hP.sub (ws' := [((q 121), .inr (7, [.ref (q 125), .int 0, .int (-1)]))]) [3] rfl) (c_isMissing l D k (q 121) [.ref (q 125), .int 0, .int (-1)] rfl) ci_X7_isMissing qm_X11_134 ⟨Nat.le_of_ble_eq_true rfl, Nat.le_of_ble_eq_true rfl⟩ ⟨Nat.le_of_ble_eq_true rfl, Nat.le_of_ble_eq_true rfl⟩ 0 rfl rfl rfl hl.1 rfl (Nat.le_of_ble_eq_true rfl) dX11_pour_52 ?_
                refine lv_if_ne (tgt := 66) hx hb dX11_pour_55 (by decide) (fun _ => ?_) (fun c => absurd c (by decide))
                refine lv_aload_n hx hb dX11_pour_66 rfl (lv_at hl 2 rfl) ?_
                refine lv_iconst (v := 2) hx hb dX11_pour_67 (by decide) ?_
                refine CWV (As := [.int 2]) (rest := []) (wc := [((q 0), .inr (11, [.ref (q 1), .ref (q 2), .ref (q 3), .ref (q 4), .ref (q 5), .ref (q 6), .ref (q 7), .ref (q 8), .ref (q 9), .ref (q 10), .ref (q 11), .int 0, .int 0, .int 0, .long 0, .long 1]))]) (wr := [((q 1), .inl (k 3, 4, .inr (.inr (.inr (.inr (fun i => some (q (120 + i)))))))), ((q 120), .inr (7, [.ref (q 124), .int 0, .int (-1)])), ((q 121), .inr (7, [.ref (q 125), .int 0, .int (-1)])), ((q 122), .inr (7, [.ref (q 126), .int 0, .int (-1)])), ((q 123), .inr (7, [.ref (q 127), .int 0, .int (-1)]))]) hx hb hml hown hts hKK hP hD hS hA (c_deny l D k (q 0) [.ref (q 1), .ref (q 2), .ref (q 3), .ref (q 4), .ref (q 5), .ref (q 6), .ref (q 7), .ref (q 8), .ref (q 9), .ref (q 10), .ref (q 11), .int 0, .int 0, .int 0, .long 0, .long 1] (Nat.le_of_ble_eq_true rfl) 2) ci_X11_deny qm_X11_107 ⟨Nat.le_of_ble_eq_true rfl, Nat.le_of_ble_eq_true rfl⟩ ⟨Nat.le_of_ble_eq_true rfl, Nat.le_of_ble_eq_true rfl⟩ [0] [1, 2, 3, 4, 5] rfl rfl rfl rfl rfl (by decide) 0 rfl rfl rfl hl.1 rfl (Nat.le_of_ble_eq_true rfl) dX11_pour_68 (fun u_61 H locs hφ hP hD hS => ?_)
                have hP : va_P D vwCl [((q 1), .inl (k 3, 4, .inr (.inr (.inr (.inr (fun i => some (q (120 + i)))))))), ((q 120), .inr (7, [.ref (q 124), .int 0, .int (-1)])), ((q 121), .inr (7, [.ref (q 125), .int 0, .int (-1)])), ((q 122), .inr (7, [.ref (q 126), .int 0, .int (-1)])), ((q 123), .inr (7, [.ref (q 127), .int 0, .int (-1)]))] H := hP
                have hD : va_D A [((q 1), .inl (k 3, 4, .inr (.inr (.inr (.inr (fun i => some (q (120 + i)))))))), ((q 120), .inr (7, [.ref (q 124), .int 0, .int (-1)])), ((q 121), .inr (7, [.ref (q 125), .int 0, .int (-1)])), ((q 122), .inr (7, [.ref (q 126), .int 0, .int (-1)])), ((q 123), .inr (7, [.ref (q 127), .int 0, .int (-1)]))] := hD
                refine W.eq (g2 := F0 m 71 ls [.int 0]) rfl ?_
                exact EWz hx hb hr hlocks hS () rfl rfl trivial nil_P nil_D dX11_pour_71
              ·
                refine lv_aload_n hx hb dX11_pour_28 rfl (lv_at hl 0 rfl) ?_
                refine lv_iconst (v := 1) hx hb dX11_pour_29 (by decide) ?_
                refine CWV (As := [.int 1]) (rest := []) (wc := [((q 0), .inr (11, [.ref (q 1), .ref (q 2), .ref (q 3), .ref (q 4), .ref (q 5), .ref (q 6), .ref (q 7), .ref (q 8), .ref (q 9), .ref (q 10), .ref (q 11), .int 0, .int 0, .int 0, .long 0, .long 1]))]) (wr := [((q 1), .inl (k 3, 4, .inr (.inr (.inr (.inr (fun i => some (q (120 + i)))))))), ((q 120), .inr (7, [.ref (q 124), .int 0, .int (-1)])), ((q 121), .inr (7, [.ref (q 125), .int 0, .int (-1)])), ((q 122), .inr (7, [.ref (q 126), .int 0, .int (-1)])), ((q 123), .inr (7, [.ref (q 127), .int 0, .int (-1)]))]) hx hb hml hown hts hKK hP hD hS hA (c_deny l D k (q 0) [.ref (q 1), .ref (q 2), .ref (q 3), .ref (q 4), .ref (q 5), .ref (q 6), .ref (q 7), .ref (q 8), .ref (q 9), .ref (q 10), .ref (q 11), .int 0, .int 0, .int 0, .long 0, .long 1] (Nat.le_of_ble_eq_true rfl) 1) ci_X11_deny qm_X11_107 ⟨Nat.le_of_ble_eq_true rfl, Nat.le_of_ble_eq_true rfl⟩ ⟨Nat.le_of_ble_eq_true rfl, Nat.le_of_ble_eq_true rfl⟩ [0] [1, 2, 3, 4, 5] rfl rfl rfl rfl rfl (by decide) 0 rfl rfl rfl hl.1 rfl (Nat.le_of_ble_eq_true rfl) dX11_pour_30 (fun u_62 H locs hφ hP hD hS => ?_)
                have hP : va_P D vwCl [((q 1), .inl (k 3, 4, .inr (.inr (.inr (.inr (fun i => some (q (120 + i)))))))), ((q 120), .inr (7, [.ref (q 124), .int 0, .int (-1)])), ((q 121), .inr (7, [.ref (q 125), .int 0, .int (-1)])), ((q 122), .inr (7, [.ref (q 126), .int 0, .int (-1)])), ((q 123), .inr (7, [.ref (q 127), .int 0, .int (-1)]))] H := hP
                have hD : va_D A [((q 1), .inl (k 3, 4, .inr (.inr (.inr (.inr (fun i => some (q (120 + i)))))))), ((q 120), .inr (7, [.ref (q 124), .int 0, .int (-1)])), ((q 121), .inr (7, [.ref (q 125), .int 0, .int (-1)])), ((q 122), .inr (7, [.ref (q 126), .int 0, .int (-1)])), ((q 123), .inr (7, [.ref (q 127), .int 0, .int (-1)]))] := hD
                refine W.eq (g2 := F0 m 33 ls [.int 0]) rfl ?_
                exact EWz hx hb hr hlocks hS () rfl rfl trivial nil_P nil_D dX11_pour_33
    ·
      refine lv_iload_n hx hb dX11_pour_7 rfl (lv_at hl 3 rfl) ?_
      refine CRS (As := [.int c1]) (rest := []) hx hb hml hown hts hKK (hP.sub (ws' := []) [] rfl) (c_isTray l D k c1) ci_X11_isTray qm_X11_99 ⟨Nat.le_of_ble_eq_true rfl, Nat.le_of_ble_eq_true rfl⟩ ⟨Nat.le_of_ble_eq_true rfl, Nat.le_of_ble_eq_true rfl⟩ rfl hl.1 rfl (Nat.le_of_ble_eq_true rfl) dX11_pour_8 ?_
      refine lv_if_eq (tgt := 28) hx hb dX11_pour_11 (by decide) (fun c_63 => ?_) (fun c_63 => ?_)
      ·
        refine lv_aload_n hx hb dX11_pour_28 rfl (lv_at hl 0 rfl) ?_
        refine lv_iconst (v := 1) hx hb dX11_pour_29 (by decide) ?_
        refine CWV (As := [.int 1]) (rest := []) (wc := [((q 0), .inr (11, [.ref (q 1), .ref (q 2), .ref (q 3), .ref (q 4), .ref (q 5), .ref (q 6), .ref (q 7), .ref (q 8), .ref (q 9), .ref (q 10), .ref (q 11), .int 0, .int 0, .int 0, .long 0, .long 1]))]) (wr := [((q 1), .inl (k 3, 4, .inr (.inr (.inr (.inr (fun i => some (q (120 + i)))))))), ((q 120), .inr (7, [.ref (q 124), .int 0, .int (-1)])), ((q 121), .inr (7, [.ref (q 125), .int 0, .int (-1)])), ((q 122), .inr (7, [.ref (q 126), .int 0, .int (-1)])), ((q 123), .inr (7, [.ref (q 127), .int 0, .int (-1)]))]) hx hb hml hown hts hKK hP hD hS hA (c_deny l D k (q 0) [.ref (q 1), .ref (q 2), .ref (q 3), .ref (q 4), .ref (q 5), .ref (q 6), .ref (q 7), .ref (q 8), .ref (q 9), .ref (q 10), .ref (q 11), .int 0, .int 0, .int 0, .long 0, .long 1] (Nat.le_of_ble_eq_true rfl) 1) ci_X11_deny qm_X11_107 ⟨Nat.le_of_ble_eq_true rfl, Nat.le_of_ble_eq_true rfl⟩ ⟨Nat.le_of_ble_eq_true rfl, Nat.le_of_ble_eq_true rfl⟩ [0] [1, 2, 3, 4, 5] rfl rfl rfl rfl rfl (by decide) 0 rfl rfl rfl hl.1 rfl (Nat.le_of_ble_eq_true rfl) dX11_pour_30 (fun u_64 H locs hφ hP hD hS => ?_)
        have hP : va_P D vwCl [((q 1), .inl (k 3, 4, .inr (.inr (.inr (.inr (fun i => some (q (120 + i)))))))), ((q 120), .inr (7, [.ref (q 124), .int 0, .int (-1)])), ((q 121), .inr (7, [.ref (q 125), .int 0, .int (-1)])), ((q 122), .inr (7, [.ref (q 126), .int 0, .int (-1)])), ((q 123), .inr (7, [.ref (q 127), .int 0, .int (-1)]))] H := hP
        have hD : va_D A [((q 1), .inl (k 3, 4, .inr (.inr (.inr (.inr (fun i => some (q (120 + i)))))))), ((q 120), .inr (7, [.ref (q 124), .int 0, .int (-1)])), ((q 121), .inr (7, [.ref (q 125), .int 0, .int (-1)])), ((q 122), .inr (7, [.ref (q 126), .int 0, .int (-1)])), ((q 123), .inr (7, [.ref (q 127), .int 0, .int (-1)]))] := hD
        refine W.eq (g2 := F0 m 33 ls [.int 0]) rfl ?_
        exact EWz hx hb hr hlocks hS () rfl rfl trivial nil_P nil_D dX11_pour_33
      ·
        obtain rfl | rfl | rfl | rfl := bw4 c_63
        ·
          refine lv_iload_n hx hb dX11_pour_14 rfl (lv_at hl 2 rfl) ?_
          refine lv_if_lt (tgt := 28) hx hb dX11_pour_15 (by decide) (fun c_65 => ?_) (fun c_65 => ?_)
          ·
            refine lv_aload_n hx hb dX11_pour_28 rfl (lv_at hl 0 rfl) ?_
            refine lv_iconst (v := 1) hx hb dX11_pour_29 (by decide) ?_
            refine CWV (As := [.int 1]) (rest := []) (wc := [((q 0), .inr (11, [.ref (q 1), .ref (q 2), .ref (q 3), .ref (q 4), .ref (q 5), .ref (q 6), .ref (q 7), .ref (q 8), .ref (q 9), .ref (q 10), .ref (q 11), .int 0, .int 0, .int 0, .long 0, .long 1]))]) (wr := [((q 1), .inl (k 3, 4, .inr (.inr (.inr (.inr (fun i => some (q (120 + i)))))))), ((q 120), .inr (7, [.ref (q 124), .int 0, .int (-1)])), ((q 121), .inr (7, [.ref (q 125), .int 0, .int (-1)])), ((q 122), .inr (7, [.ref (q 126), .int 0, .int (-1)])), ((q 123), .inr (7, [.ref (q 127), .int 0, .int (-1)]))]) hx hb hml hown hts hKK hP hD hS hA (c_deny l D k (q 0) [.ref (q 1), .ref (q 2), .ref (q 3), .ref (q 4), .ref (q 5), .ref (q 6), .ref (q 7), .ref (q 8), .ref (q 9), .ref (q 10), .ref (q 11), .int 0, .int 0, .int 0, .long 0, .long 1] (Nat.le_of_ble_eq_true rfl) 1) ci_X11_deny qm_X11_107 ⟨Nat.le_of_ble_eq_true rfl, Nat.le_of_ble_eq_true rfl⟩ ⟨Nat.le_of_ble_eq_true rfl, Nat.le_of_ble_eq_true rfl⟩ [0] [1, 2, 3, 4, 5] rfl rfl rfl rfl rfl (by decide) 0 rfl rfl rfl hl.1 rfl (Nat.le_of_ble_eq_true rfl) dX11_pour_30 (fun u_66 H locs hφ hP hD hS => ?_)
            have hP : va_P D vwCl [((q 1), .inl (k 3, 4, .inr (.inr (.inr (.inr (fun i => some (q (120 + i)))))))), ((q 120), .inr (7, [.ref (q 124), .int 0, .int (-1)])), ((q 121), .inr (7, [.ref (q 125), .int 0, .int (-1)])), ((q 122), .inr (7, [.ref (q 126), .int 0, .int (-1)])), ((q 123), .inr (7, [.ref (q 127), .int 0, .int (-1)]))] H := hP
            have hD : va_D A [((q 1), .inl (k 3, 4, .inr (.inr (.inr (.inr (fun i => some (q (120 + i)))))))), ((q 120), .inr (7, [.ref (q 124), .int 0, .int (-1)])), ((q 121), .inr (7, [.ref (q 125), .int 0, .int (-1)])), ((q 122), .inr (7, [.ref (q 126), .int 0, .int (-1)])), ((q 123), .inr (7, [.ref (q 127), .int 0, .int (-1)]))] := hD
            refine W.eq (g2 := F0 m 33 ls [.int 0]) rfl ?_
            exact EWz hx hb hr hlocks hS () rfl rfl trivial nil_P nil_D dX11_pour_33
          ·
            refine lv_iload hx hb dX11_pour_18 (lv_at hl 4 rfl) ?_
            refine lv_if_lt (tgt := 28) hx hb dX11_pour_20 (by decide) (fun c_67 => ?_) (fun c_67 => ?_)
            ·
              refine lv_aload_n hx hb dX11_pour_28 rfl (lv_at hl 0 rfl) ?_
              refine lv_iconst (v := 1) hx hb dX11_pour_29 (by decide) ?_
              refine CWV (As := [.int 1]) (rest := []) (wc := [((q 0), .inr (11, [.ref (q 1), .ref (q 2), .ref (q 3), .ref (q 4), .ref (q 5), .ref (q 6), .ref (q 7), .ref (q 8), .ref (q 9), .ref (q 10), .ref (q 11), .int 0, .int 0, .int 0, .long 0, .long 1]))]) (wr := [((q 1), .inl (k 3, 4, .inr (.inr (.inr (.inr (fun i => some (q (120 + i)))))))), ((q 120), .inr (7, [.ref (q 124), .int 0, .int (-1)])), ((q 121), .inr (7, [.ref (q 125), .int 0, .int (-1)])), ((q 122), .inr (7, [.ref (q 126), .int 0, .int (-1)])), ((q 123), .inr (7, [.ref (q 127), .int 0, .int (-1)]))]) hx hb hml hown hts hKK hP hD hS hA (c_deny l D k (q 0) [.ref (q 1), .ref (q 2), .ref (q 3), .ref (q 4), .ref (q 5), .ref (q 6), .ref (q 7), .ref (q 8), .ref (q 9), .ref (q 10), .ref (q 11), .int 0, .int 0, .int 0, .long 0, .long 1] (Nat.le_of_ble_eq_true rfl) 1) ci_X11_deny qm_X11_107 ⟨Nat.le_of_ble_eq_true rfl, Nat.le_of_ble_eq_true rfl⟩ ⟨Nat.le_of_ble_eq_true rfl, Nat.le_of_ble_eq_true rfl⟩ [0] [1, 2, 3, 4, 5] rfl rfl rfl rfl rfl (by decide) 0 rfl rfl rfl hl.1 rfl (Nat.le_of_ble_eq_true rfl) dX11_pour_30 (fun u_68 H locs hφ hP hD hS => ?_)
              have hP : va_P D vwCl [((q 1), .inl (k 3, 4, .inr (.inr (.inr (.inr (fun i => some (q (120 + i)))))))), ((q 120), .inr (7, [.ref (q 124), .int 0, .int (-1)])), ((q 121), .inr (7, [.ref (q 125), .int 0, .int (-1)])), ((q 122), .inr (7, [.ref (q 126), .int 0, .int (-1)])), ((q 123), .inr (7, [.ref (q 127), .int 0, .int (-1)]))] H := hP
              have hD : va_D A [((q 1), .inl (k 3, 4, .inr (.inr (.inr (.inr (fun i => some (q (120 + i)))))))), ((q 120), .inr (7, [.ref (q 124), .int 0, .int (-1)])), ((q 121), .inr (7, [.ref (q 125), .int 0, .int (-1)])), ((q 122), .inr (7, [.ref (q 126), .int 0, .int (-1)])), ((q 123), .inr (7, [.ref (q 127), .int 0, .int (-1)]))] := hD
              refine W.eq (g2 := F0 m 33 ls [.int 0]) rfl ?_
              exact EWz hx hb hr hlocks hS () rfl rfl trivial nil_P nil_D dX11_pour_33
            ·
              refine lv_iload hx hb dX11_pour_23 (lv_at hl 5 rfl) ?_
              refine lv_if_ge (tgt := 34) hx hb dX11_pour_25 (by decide) (fun c_69 => ?_) (fun c_69 => ?_)
              ·
                refine lv_aload_n hx hb dX11_pour_34 rfl (lv_at hl 0 rfl) ?_
                refine va_get (D := D) (ci := 11) (v := .ref (q 1)) (C := RX11) (T := TX11) (N := 16) hx hb hts iX11 hown hK hP 0 rfl rfl 0 (by decide) (hts _ qf_X11_11) (fun _ h => h) rfl dX11_pour_35 ?_
                refine lv_iload_n hx hb dX11_pour_38 rfl (lv_at hl 1 rfl) ?_
                refine va_aldq hx hb hK hP 1 3 rfl rfl (xin 2 4 rfl (by decide) (by decide)) dX11_pour_39 ?_
                refine W.eq (g2 := F0 m 40 ls [.ref (q 122)]) rfl ?_
                refine lv_astore (lv' := [(6, .ref (q 122)), (0, .ref (q 0)), (1, .int 2), (2, .int b), (3, .int 0), (4, .int d1), (5, .int e1)]) hx hb dX11_pour_40 hl (by decide) rfl (fun ls hl => ?_)
                refine lv_aload_n hx hb dX11_pour_42 rfl (lv_at hl 1 rfl) ?_
                refine va_get (D := D) (ci := 11) (v := .ref (q 1)) (C := RX11) (T := TX11) (N := 16) hx hb hts iX11 hown hK hP 0 rfl rfl 0 (by decide) (hts _ qf_X11_11) (fun _ h => h) rfl dX11_pour_43 ?_
                refine lv_iload_n hx hb dX11_pour_46 rfl (lv_at hl 4 rfl) ?_
                refine va_aldq hx hb hK hP 1 3 rfl rfl (xin 0 4 rfl (by decide) (by decide)) dX11_pour_47 ?_
                refine W.eq (g2 := F0 m 48 ls [.ref (q 120)]) rfl ?_
                refine lv_astore (lv' := [(7, .ref (q 120)), (6, .ref (q 122)), (0, .ref (q 0)), (1, .int 2), (2, .int b), (3, .int 0), (4, .int d1), (5, .int e1)]) hx hb dX11_pour_48 hl (by decide) rfl (fun ls hl => ?_)
                refine lv_aload hx hb dX11_pour_50 (lv_at hl 1 rfl) ?_
                refine CRV (As := []) (rest := []) hx hb hml hown hts hKK (hP.sub (ws' := [((q 122), .inr (7, [.ref (q 126), .int 0, .int (-1)]))]) [4] rfl) (c_isMissing l D k (q 122) [.ref (q 126), .int 0, .int (-1)] rfl) ci_X7_isMissing qm_X11_134 ⟨Nat.le_of_ble_eq_true rfl, Nat.le_of_ble_eq_true rfl⟩ ⟨Nat.le_of_ble_eq_true rfl, Nat.le_of_ble_eq_true rfl⟩ 0 rfl rfl rfl hl.1 rfl (Nat.le_of_ble_eq_true rfl) dX11_pour_52 ?_
                refine lv_if_ne (tgt := 66) hx hb dX11_pour_55 (by decide) (fun _ => ?_) (fun c => absurd c (by decide))
                refine lv_aload_n hx hb dX11_pour_66 rfl (lv_at hl 2 rfl) ?_
                refine lv_iconst (v := 2) hx hb dX11_pour_67 (by decide) ?_
                refine CWV (As := [.int 2]) (rest := []) (wc := [((q 0), .inr (11, [.ref (q 1), .ref (q 2), .ref (q 3), .ref (q 4), .ref (q 5), .ref (q 6), .ref (q 7), .ref (q 8), .ref (q 9), .ref (q 10), .ref (q 11), .int 0, .int 0, .int 0, .long 0, .long 1]))]) (wr := [((q 1), .inl (k 3, 4, .inr (.inr (.inr (.inr (fun i => some (q (120 + i)))))))), ((q 120), .inr (7, [.ref (q 124), .int 0, .int (-1)])), ((q 121), .inr (7, [.ref (q 125), .int 0, .int (-1)])), ((q 122), .inr (7, [.ref (q 126), .int 0, .int (-1)])), ((q 123), .inr (7, [.ref (q 127), .int 0, .int (-1)]))]) hx hb hml hown hts hKK hP hD hS hA (c_deny l D k (q 0) [.ref (q 1), .ref (q 2), .ref (q 3), .ref (q 4), .ref (q 5), .ref (q 6), .ref (q 7), .ref (q 8), .ref (q 9), .ref (q 10), .ref (q 11), .int 0, .int 0, .int 0, .long 0, .long 1] (Nat.le_of_ble_eq_true rfl) 2) ci_X11_deny qm_X11_107 ⟨Nat.le_of_ble_eq_true rfl, Nat.le_of_ble_eq_true rfl⟩ ⟨Nat.le_of_ble_eq_true rfl, Nat.le_of_ble_eq_true rfl⟩ [0] [1, 2, 3, 4, 5] rfl rfl rfl rfl rfl (by decide) 0 rfl rfl rfl hl.1 rfl (Nat.le_of_ble_eq_true rfl) dX11_pour_68 (fun u_70 H locs hφ hP hD hS => ?_)
                have hP : va_P D vwCl [((q 1), .inl (k 3, 4, .inr (.inr (.inr (.inr (fun i => some (q (120 + i)))))))), ((q 120), .inr (7, [.ref (q 124), .int 0, .int (-1)])), ((q 121), .inr (7, [.ref (q 125), .int 0, .int (-1)])), ((q 122), .inr (7, [.ref (q 126), .int 0, .int (-1)])), ((q 123), .inr (7, [.ref (q 127), .int 0, .int (-1)]))] H := hP
                have hD : va_D A [((q 1), .inl (k 3, 4, .inr (.inr (.inr (.inr (fun i => some (q (120 + i)))))))), ((q 120), .inr (7, [.ref (q 124), .int 0, .int (-1)])), ((q 121), .inr (7, [.ref (q 125), .int 0, .int (-1)])), ((q 122), .inr (7, [.ref (q 126), .int 0, .int (-1)])), ((q 123), .inr (7, [.ref (q 127), .int 0, .int (-1)]))] := hD
                refine W.eq (g2 := F0 m 71 ls [.int 0]) rfl ?_
                exact EWz hx hb hr hlocks hS () rfl rfl trivial nil_P nil_D dX11_pour_71
              ·
                refine lv_aload_n hx hb dX11_pour_28 rfl (lv_at hl 0 rfl) ?_
                refine lv_iconst (v := 1) hx hb dX11_pour_29 (by decide) ?_
                refine CWV (As := [.int 1]) (rest := []) (wc := [((q 0), .inr (11, [.ref (q 1), .ref (q 2), .ref (q 3), .ref (q 4), .ref (q 5), .ref (q 6), .ref (q 7), .ref (q 8), .ref (q 9), .ref (q 10), .ref (q 11), .int 0, .int 0, .int 0, .long 0, .long 1]))]) (wr := [((q 1), .inl (k 3, 4, .inr (.inr (.inr (.inr (fun i => some (q (120 + i)))))))), ((q 120), .inr (7, [.ref (q 124), .int 0, .int (-1)])), ((q 121), .inr (7, [.ref (q 125), .int 0, .int (-1)])), ((q 122), .inr (7, [.ref (q 126), .int 0, .int (-1)])), ((q 123), .inr (7, [.ref (q 127), .int 0, .int (-1)]))]) hx hb hml hown hts hKK hP hD hS hA (c_deny l D k (q 0) [.ref (q 1), .ref (q 2), .ref (q 3), .ref (q 4), .ref (q 5), .ref (q 6), .ref (q 7), .ref (q 8), .ref (q 9), .ref (q 10), .ref (q 11), .int 0, .int 0, .int 0, .long 0, .long 1] (Nat.le_of_ble_eq_true rfl) 1) ci_X11_deny qm_X11_107 ⟨Nat.le_of_ble_eq_true rfl, Nat.le_of_ble_eq_true rfl⟩ ⟨Nat.le_of_ble_eq_true rfl, Nat.le_of_ble_eq_true rfl⟩ [0] [1, 2, 3, 4, 5] rfl rfl rfl rfl rfl (by decide) 0 rfl rfl rfl hl.1 rfl (Nat.le_of_ble_eq_true rfl) dX11_pour_30 (fun u_71 H locs hφ hP hD hS => ?_)
                have hP : va_P D vwCl [((q 1), .inl (k 3, 4, .inr (.inr (.inr (.inr (fun i => some (q (120 + i)))))))), ((q 120), .inr (7, [.ref (q 124), .int 0, .int (-1)])), ((q 121), .inr (7, [.ref (q 125), .int 0, .int (-1)])), ((q 122), .inr (7, [.ref (q 126), .int 0, .int (-1)])), ((q 123), .inr (7, [.ref (q 127), .int 0, .int (-1)]))] H := hP
                have hD : va_D A [((q 1), .inl (k 3, 4, .inr (.inr (.inr (.inr (fun i => some (q (120 + i)))))))), ((q 120), .inr (7, [.ref (q 124), .int 0, .int (-1)])), ((q 121), .inr (7, [.ref (q 125), .int 0, .int (-1)])), ((q 122), .inr (7, [.ref (q 126), .int 0, .int (-1)])), ((q 123), .inr (7, [.ref (q 127), .int 0, .int (-1)]))] := hD
                refine W.eq (g2 := F0 m 33 ls [.int 0]) rfl ?_
                exact EWz hx hb hr hlocks hS () rfl rfl trivial nil_P nil_D dX11_pour_33
        ·
          refine lv_iload_n hx hb dX11_pour_14 rfl (lv_at hl 2 rfl) ?_
          refine lv_if_lt (tgt := 28) hx hb dX11_pour_15 (by decide) (fun c_72 => ?_) (fun c_72 => ?_)
          ·
            refine lv_aload_n hx hb dX11_pour_28 rfl (lv_at hl 0 rfl) ?_
            refine lv_iconst (v := 1) hx hb dX11_pour_29 (by decide) ?_
            refine CWV (As := [.int 1]) (rest := []) (wc := [((q 0), .inr (11, [.ref (q 1), .ref (q 2), .ref (q 3), .ref (q 4), .ref (q 5), .ref (q 6), .ref (q 7), .ref (q 8), .ref (q 9), .ref (q 10), .ref (q 11), .int 0, .int 0, .int 0, .long 0, .long 1]))]) (wr := [((q 1), .inl (k 3, 4, .inr (.inr (.inr (.inr (fun i => some (q (120 + i)))))))), ((q 120), .inr (7, [.ref (q 124), .int 0, .int (-1)])), ((q 121), .inr (7, [.ref (q 125), .int 0, .int (-1)])), ((q 122), .inr (7, [.ref (q 126), .int 0, .int (-1)])), ((q 123), .inr (7, [.ref (q 127), .int 0, .int (-1)]))]) hx hb hml hown hts hKK hP hD hS hA (c_deny l D k (q 0) [.ref (q 1), .ref (q 2), .ref (q 3), .ref (q 4), .ref (q 5), .ref (q 6), .ref (q 7), .ref (q 8), .ref (q 9), .ref (q 10), .ref (q 11), .int 0, .int 0, .int 0, .long 0, .long 1] (Nat.le_of_ble_eq_true rfl) 1) ci_X11_deny qm_X11_107 ⟨Nat.le_of_ble_eq_true rfl, Nat.le_of_ble_eq_true rfl⟩ ⟨Nat.le_of_ble_eq_true rfl, Nat.le_of_ble_eq_true rfl⟩ [0] [1, 2, 3, 4, 5] rfl rfl rfl rfl rfl (by decide) 0 rfl rfl rfl hl.1 rfl (Nat.le_of_ble_eq_true rfl) dX11_pour_30 (fun u_73 H locs hφ hP hD hS => ?_)
            have hP : va_P D vwCl [((q 1), .inl (k 3, 4, .inr (.inr (.inr (.inr (fun i => some (q (120 + i)))))))), ((q 120), .inr (7, [.ref (q 124), .int 0, .int (-1)])), ((q 121), .inr (7, [.ref (q 125), .int 0, .int (-1)])), ((q 122), .inr (7, [.ref (q 126), .int 0, .int (-1)])), ((q 123), .inr (7, [.ref (q 127), .int 0, .int (-1)]))] H := hP
            have hD : va_D A [((q 1), .inl (k 3, 4, .inr (.inr (.inr (.inr (fun i => some (q (120 + i)))))))), ((q 120), .inr (7, [.ref (q 124), .int 0, .int (-1)])), ((q 121), .inr (7, [.ref (q 125), .int 0, .int (-1)])), ((q 122), .inr (7, [.ref (q 126), .int 0, .int (-1)])), ((q 123), .inr (7, [.ref (q 127), .int 0, .int (-1)]))] := hD
            refine W.eq (g2 := F0 m 33 ls [.int 0]) rfl ?_
            exact EWz hx hb hr hlocks hS () rfl rfl trivial nil_P nil_D dX11_pour_33
          ·
            refine lv_iload hx hb dX11_pour_18 (lv_at hl 4 rfl) ?_
            refine lv_if_lt (tgt := 28) hx hb dX11_pour_20 (by decide) (fun c_74 => ?_) (fun c_74 => ?_)
            ·
              refine lv_aload_n hx hb dX11_pour_28 rfl (lv_at hl 0 rfl) ?_
              refine lv_iconst (v := 1) hx hb dX11_pour_29 (by decide) ?_
              refine CWV (As := [.int 1]) (rest := []) (wc := [((q 0), .inr (11, [.ref (q 1), .ref (q 2), .ref (q 3), .ref (q 4), .ref (q 5), .ref (q 6), .ref (q 7), .ref (q 8), .ref (q 9), .ref (q 10), .ref (q 11), .int 0, .int 0, .int 0, .long 0, .long 1]))]) (wr := [((q 1), .inl (k 3, 4, .inr (.inr (.inr (.inr (fun i => some (q (120 + i)))))))), ((q 120), .inr (7, [.ref (q 124), .int 0, .int (-1)])), ((q 121), .inr (7, [.ref (q 125), .int 0, .int (-1)])), ((q 122), .inr (7, [.ref (q 126), .int 0, .int (-1)])), ((q 123), .inr (7, [.ref (q 127), .int 0, .int (-1)]))]) hx hb hml hown hts hKK hP hD hS hA (c_deny l D k (q 0) [.ref (q 1), .ref (q 2), .ref (q 3), .ref (q 4), .ref (q 5), .ref (q 6), .ref (q 7), .ref (q 8), .ref (q 9), .ref (q 10), .ref (q 11), .int 0, .int 0, .int 0, .long 0, .long 1] (Nat.le_of_ble_eq_true rfl) 1) ci_X11_deny qm_X11_107 ⟨Nat.le_of_ble_eq_true rfl, Nat.le_of_ble_eq_true rfl⟩ ⟨Nat.le_of_ble_eq_true rfl, Nat.le_of_ble_eq_true rfl⟩ [0] [1, 2, 3, 4, 5] rfl rfl rfl rfl rfl (by decide) 0 rfl rfl rfl hl.1 rfl (Nat.le_of_ble_eq_true rfl) dX11_pour_30 (fun u_75 H locs hφ hP hD hS => ?_)
              have hP : va_P D vwCl [((q 1), .inl (k 3, 4, .inr (.inr (.inr (.inr (fun i => some (q (120 + i)))))))), ((q 120), .inr (7, [.ref (q 124), .int 0, .int (-1)])), ((q 121), .inr (7, [.ref (q 125), .int 0, .int (-1)])), ((q 122), .inr (7, [.ref (q 126), .int 0, .int (-1)])), ((q 123), .inr (7, [.ref (q 127), .int 0, .int (-1)]))] H := hP
              have hD : va_D A [((q 1), .inl (k 3, 4, .inr (.inr (.inr (.inr (fun i => some (q (120 + i)))))))), ((q 120), .inr (7, [.ref (q 124), .int 0, .int (-1)])), ((q 121), .inr (7, [.ref (q 125), .int 0, .int (-1)])), ((q 122), .inr (7, [.ref (q 126), .int 0, .int (-1)])), ((q 123), .inr (7, [.ref (q 127), .int 0, .int (-1)]))] := hD
              refine W.eq (g2 := F0 m 33 ls [.int 0]) rfl ?_
              exact EWz hx hb hr hlocks hS () rfl rfl trivial nil_P nil_D dX11_pour_33
            ·
              refine lv_iload hx hb dX11_pour_23 (lv_at hl 5 rfl) ?_
              refine lv_if_ge (tgt := 34) hx hb dX11_pour_25 (by decide) (fun c_76 => ?_) (fun c_76 => ?_)
              ·
                refine lv_aload_n hx hb dX11_pour_34 rfl (lv_at hl 0 rfl) ?_
                refine va_get (D := D) (ci := 11) (v := .ref (q 1)) (C := RX11) (T := TX11) (N := 16) hx hb hts iX11 hown hK hP 0 rfl rfl 0 (by decide) (hts _ qf_X11_11) (fun _ h => h) rfl dX11_pour_35 ?_
                refine lv_iload_n hx hb dX11_pour_38 rfl (lv_at hl 1 rfl) ?_
                refine va_aldq hx hb hK hP 1 3 rfl rfl (xin 2 4 rfl (by decide) (by decide)) dX11_pour_39 ?_
                refine W.eq (g2 := F0 m 40 ls [.ref (q 122)]) rfl ?_
                refine lv_astore (lv' := [(6, .ref (q 122)), (0, .ref (q 0)), (1, .int 2), (2, .int b), (3, .int 1), (4, .int d1), (5, .int e1)]) hx hb dX11_pour_40 hl (by decide) rfl (fun ls hl => ?_)
                refine lv_aload_n hx hb dX11_pour_42 rfl (lv_at hl 1 rfl) ?_
                refine va_get (D := D) (ci := 11) (v := .ref (q 1)) (C := RX11) (T := TX11) (N := 16) hx hb hts iX11 hown hK hP 0 rfl rfl 0 (by decide) (hts _ qf_X11_11) (fun _ h => h) rfl dX11_pour_43 ?_
                refine lv_iload_n hx hb dX11_pour_46 rfl (lv_at hl 4 rfl) ?_
                refine va_aldq hx hb hK hP 1 3 rfl rfl (xin 1 4 rfl (by decide) (by decide)) dX11_pour_47 ?_
                refine W.eq (g2 := F0 m 48 ls [.ref (q 121)]) rfl ?_
                refine lv_astore (lv' := [(7, .ref (q 121)), (6, .ref (q 122)), (0, .ref (q 0)), (1, .int 2), (2, .int b), (3, .int 1), (4, .int d1), (5, .int e1)]) hx hb dX11_pour_48 hl (by decide) rfl (fun ls hl => ?_)
                refine lv_aload hx hb dX11_pour_50 (lv_at hl 1 rfl) ?_
                refine CRV (As := []) (rest := []) hx hb hml hown hts hKK (hP.sub (ws' := [((q 122), .inr (7, [.ref (q 126), .int 0, .int (-1)]))]) [4] rfl) (c_isMissing l D k (q 122) [.ref (q 126), .int 0, .int (-1)] rfl) ci_X7_isMissing qm_X11_134 ⟨Nat.le_of_ble_eq_true rfl, Nat.le_of_ble_eq_true rfl⟩ ⟨Nat.le_of_ble_eq_true rfl, Nat.le_of_ble_eq_true rfl⟩ 0 rfl rfl rfl hl.1 rfl (Nat.le_of_ble_eq_true rfl) dX11_pour_52 ?_
                refine lv_if_ne (tgt := 66) hx hb dX11_pour_55 (by decide) (fun _ => ?_) (fun c => absurd c (by decide))
                refine lv_aload_n hx hb dX11_pour_66 rfl (lv_at hl 2 rfl) ?_
                refine lv_iconst (v := 2) hx hb dX11_pour_67 (by decide) ?_
                refine CWV (As := [.int 2]) (rest := []) (wc := [((q 0), .inr (11, [.ref (q 1), .ref (q 2), .ref (q 3), .ref (q 4), .ref (q 5), .ref (q 6), .ref (q 7), .ref (q 8), .ref (q 9), .ref (q 10), .ref (q 11), .int 0, .int 0, .int 0, .long 0, .long 1]))]) (wr := [((q 1), .inl (k 3, 4, .inr (.inr (.inr (.inr (fun i => some (q (120 + i)))))))), ((q 120), .inr (7, [.ref (q 124), .int 0, .int (-1)])), ((q 121), .inr (7, [.ref (q 125), .int 0, .int (-1)])), ((q 122), .inr (7, [.ref (q 126), .int 0, .int (-1)])), ((q 123), .inr (7, [.ref (q 127), .int 0, .int (-1)]))]) hx hb hml hown hts hKK hP hD hS hA (c_deny l D k (q 0) [.ref (q 1), .ref (q 2), .ref (q 3), .ref (q 4), .ref (q 5), .ref (q 6), .ref (q 7), .ref (q 8), .ref (q 9), .ref (q 10), .ref (q 11), .int 0, .int 0, .int 0, .long 0, .long 1] (Nat.le_of_ble_eq_true rfl) 2) ci_X11_deny qm_X11_107 ⟨Nat.le_of_ble_eq_true rfl, Nat.le_of_ble_eq_true rfl⟩ ⟨Nat.le_of_ble_eq_true rfl, Nat.le_of_ble_eq_true rfl⟩ [0] [1, 2, 3, 4, 5] rfl rfl rfl rfl rfl (by decide) 0 rfl rfl rfl hl.1 rfl (Nat.le_of_ble_eq_true rfl) dX11_pour_68 (fun u_77 H locs hφ hP hD hS => ?_)
                have hP : va_P D vwCl [((q 1), .inl (k 3, 4, .inr (.inr (.inr (.inr (fun i => some (q (120 + i)))))))), ((q 120), .inr (7, [.ref (q 124), .int 0, .int (-1)])), ((q 121), .inr (7, [.ref (q 125), .int 0, .int (-1)])), ((q 122), .inr (7, [.ref (q 126), .int 0, .int (-1)])), ((q 123), .inr (7, [.ref (q 127), .int 0, .int (-1)]))] H := hP
                have hD : va_D A [((q 1), .inl (k 3, 4, .inr (.inr (.inr (.inr (fun i => some (q (120 + i)))))))), ((q 120), .inr (7, [.ref (q 124), .int 0, .int (-1)])), ((q 121), .inr (7, [.ref (q 125), .int 0, .int (-1)])), ((q 122), .inr (7, [.ref (q 126), .int 0, .int (-1)])), ((q 123), .inr (7, [.ref (q 127), .int 0, .int (-1)]))] := hD
                refine W.eq (g2 := F0 m 71 ls [.int 0]) rfl ?_
                exact EWz hx hb hr hlocks hS () rfl rfl trivial nil_P nil_D dX11_pour_71
              ·
                refine lv_aload_n hx hb dX11_pour_28 rfl (lv_at hl 0 rfl) ?_
                refine lv_iconst (v := 1) hx hb dX11_pour_29 (by decide) ?_
                refine CWV (As := [.int 1]) (rest := []) (wc := [((q 0), .inr (11, [.ref (q 1), .ref (q 2), .ref (q 3), .ref (q 4), .ref (q 5), .ref (q 6), .ref (q 7), .ref (q 8), .ref (q 9), .ref (q 10), .ref (q 11), .int 0, .int 0, .int 0, .long 0, .long 1]))]) (wr := [((q 1), .inl (k 3, 4, .inr (.inr (.inr (.inr (fun i => some (q (120 + i)))))))), ((q 120), .inr (7, [.ref (q 124), .int 0, .int (-1)])), ((q 121), .inr (7, [.ref (q 125), .int 0, .int (-1)])), ((q 122), .inr (7, [.ref (q 126), .int 0, .int (-1)])), ((q 123), .inr (7, [.ref (q 127), .int 0, .int (-1)]))]) hx hb hml hown hts hKK hP hD hS hA (c_deny l D k (q 0) [.ref (q 1), .ref (q 2), .ref (q 3), .ref (q 4), .ref (q 5), .ref (q 6), .ref (q 7), .ref (q 8), .ref (q 9), .ref (q 10), .ref (q 11), .int 0, .int 0, .int 0, .long 0, .long 1] (Nat.le_of_ble_eq_true rfl) 1) ci_X11_deny qm_X11_107 ⟨Nat.le_of_ble_eq_true rfl, Nat.le_of_ble_eq_true rfl⟩ ⟨Nat.le_of_ble_eq_true rfl, Nat.le_of_ble_eq_true rfl⟩ [0] [1, 2, 3, 4, 5] rfl rfl rfl rfl rfl (by decide) 0 rfl rfl rfl hl.1 rfl (Nat.le_of_ble_eq_true rfl) dX11_pour_30 (fun u_78 H locs hφ hP hD hS => ?_)
                have hP : va_P D vwCl [((q 1), .inl (k 3, 4, .inr (.inr (.inr (.inr (fun i => some (q (120 + i)))))))), ((q 120), .inr (7, [.ref (q 124), .int 0, .int (-1)])), ((q 121), .inr (7, [.ref (q 125), .int 0, .int (-1)])), ((q 122), .inr (7, [.ref (q 126), .int 0, .int (-1)])), ((q 123), .inr (7, [.ref (q 127), .int 0, .int (-1)]))] H := hP
                have hD : va_D A [((q 1), .inl (k 3, 4, .inr (.inr (.inr (.inr (fun i => some (q (120 + i)))))))), ((q 120), .inr (7, [.ref (q 124), .int 0, .int (-1)])), ((q 121), .inr (7, [.ref (q 125), .int 0, .int (-1)])), ((q 122), .inr (7, [.ref (q 126), .int 0, .int (-1)])), ((q 123), .inr (7, [.ref (q 127), .int 0, .int (-1)]))] := hD
                refine W.eq (g2 := F0 m 33 ls [.int 0]) rfl ?_
                exact EWz hx hb hr hlocks hS () rfl rfl trivial nil_P nil_D dX11_pour_33
        ·
          refine lv_iload_n hx hb dX11_pour_14 rfl (lv_at hl 2 rfl) ?_
          refine lv_if_lt (tgt := 28) hx hb dX11_pour_15 (by decide) (fun c_79 => ?_) (fun c_79 => ?_)
          ·
            refine lv_aload_n hx hb dX11_pour_28 rfl (lv_at hl 0 rfl) ?_
            refine lv_iconst (v := 1) hx hb dX11_pour_29 (by decide) ?_
            refine CWV (As := [.int 1]) (rest := []) (wc := [((q 0), .inr (11, [.ref (q 1), .ref (q 2), .ref (q 3), .ref (q 4), .ref (q 5), .ref (q 6), .ref (q 7), .ref (q 8), .ref (q 9), .ref (q 10), .ref (q 11), .int 0, .int 0, .int 0, .long 0, .long 1]))]) (wr := [((q 1), .inl (k 3, 4, .inr (.inr (.inr (.inr (fun i => some (q (120 + i)))))))), ((q 120), .inr (7, [.ref (q 124), .int 0, .int (-1)])), ((q 121), .inr (7, [.ref (q 125), .int 0, .int (-1)])), ((q 122), .inr (7, [.ref (q 126), .int 0, .int (-1)])), ((q 123), .inr (7, [.ref (q 127), .int 0, .int (-1)]))]) hx hb hml hown hts hKK hP hD hS hA (c_deny l D k (q 0) [.ref (q 1), .ref (q 2), .ref (q 3), .ref (q 4), .ref (q 5), .ref (q 6), .ref (q 7), .ref (q 8), .ref (q 9), .ref (q 10), .ref (q 11), .int 0, .int 0, .int 0, .long 0, .long 1] (Nat.le_of_ble_eq_true rfl) 1) ci_X11_deny qm_X11_107 ⟨Nat.le_of_ble_eq_true rfl, Nat.le_of_ble_eq_true rfl⟩ ⟨Nat.le_of_ble_eq_true rfl, Nat.le_of_ble_eq_true rfl⟩ [0] [1, 2, 3, 4, 5] rfl rfl rfl rfl rfl (by decide) 0 rfl rfl rfl hl.1 rfl (Nat.le_of_ble_eq_true rfl) dX11_pour_30 (fun u_80 H locs hφ hP hD hS => ?_)
            have hP : va_P D vwCl [((q 1), .inl (k 3, 4, .inr (.inr (.inr (.inr (fun i => some (q (120 + i)))))))), ((q 120), .inr (7, [.ref (q 124), .int 0, .int (-1)])), ((q 121), .inr (7, [.ref (q 125), .int 0, .int (-1)])), ((q 122), .inr (7, [.ref (q 126), .int 0, .int (-1)])), ((q 123), .inr (7, [.ref (q 127), .int 0, .int (-1)]))] H := hP
            have hD : va_D A [((q 1), .inl (k 3, 4, .inr (.inr (.inr (.inr (fun i => some (q (120 + i)))))))), ((q 120), .inr (7, [.ref (q 124), .int 0, .int (-1)])), ((q 121), .inr (7, [.ref (q 125), .int 0, .int (-1)])), ((q 122), .inr (7, [.ref (q 126), .int 0, .int (-1)])), ((q 123), .inr (7, [.ref (q 127), .int 0, .int (-1)]))] := hD
            refine W.eq (g2 := F0 m 33 ls [.int 0]) rfl ?_
            exact EWz hx hb hr hlocks hS () rfl rfl trivial nil_P nil_D dX11_pour_33
          ·
            refine lv_iload hx hb dX11_pour_18 (lv_at hl 4 rfl) ?_
            refine lv_if_lt (tgt := 28) hx hb dX11_pour_20 (by decide) (fun c_81 => ?_) (fun c_81 => ?_)
            ·
              refine lv_aload_n hx hb dX11_pour_28 rfl (lv_at hl 0 rfl) ?_
              refine lv_iconst (v := 1) hx hb dX11_pour_29 (by decide) ?_
              refine CWV (As := [.int 1]) (rest := []) (wc := [((q 0), .inr (11, [.ref (q 1), .ref (q 2), .ref (q 3), .ref (q 4), .ref (q 5), .ref (q 6), .ref (q 7), .ref (q 8), .ref (q 9), .ref (q 10), .ref (q 11), .int 0, .int 0, .int 0, .long 0, .long 1]))]) (wr := [((q 1), .inl (k 3, 4, .inr (.inr (.inr (.inr (fun i => some (q (120 + i)))))))), ((q 120), .inr (7, [.ref (q 124), .int 0, .int (-1)])), ((q 121), .inr (7, [.ref (q 125), .int 0, .int (-1)])), ((q 122), .inr (7, [.ref (q 126), .int 0, .int (-1)])), ((q 123), .inr (7, [.ref (q 127), .int 0, .int (-1)]))]) hx hb hml hown hts hKK hP hD hS hA (c_deny l D k (q 0) [.ref (q 1), .ref (q 2), .ref (q 3), .ref (q 4), .ref (q 5), .ref (q 6), .ref (q 7), .ref (q 8), .ref (q 9), .ref (q 10), .ref (q 11), .int 0, .int 0, .int 0, .long 0, .long 1] (Nat.le_of_ble_eq_true rfl) 1) ci_X11_deny qm_X11_107 ⟨Nat.le_of_ble_eq_true rfl, Nat.le_of_ble_eq_true rfl⟩ ⟨Nat.le_of_ble_eq_true rfl, Nat.le_of_ble_eq_true rfl⟩ [0] [1, 2, 3, 4, 5] rfl rfl rfl rfl rfl (by decide) 0 rfl rfl rfl hl.1 rfl (Nat.le_of_ble_eq_true rfl) dX11_pour_30 (fun u_82 H locs hφ hP hD hS => ?_)
              have hP : va_P D vwCl [((q 1), .inl (k 3, 4, .inr (.inr (.inr (.inr (fun i => some (q (120 + i)))))))), ((q 120), .inr (7, [.ref (q 124), .int 0, .int (-1)])), ((q 121), .inr (7, [.ref (q 125), .int 0, .int (-1)])), ((q 122), .inr (7, [.ref (q 126), .int 0, .int (-1)])), ((q 123), .inr (7, [.ref (q 127), .int 0, .int (-1)]))] H := hP
              have hD : va_D A [((q 1), .inl (k 3, 4, .inr (.inr (.inr (.inr (fun i => some (q (120 + i)))))))), ((q 120), .inr (7, [.ref (q 124), .int 0, .int (-1)])), ((q 121), .inr (7, [.ref (q 125), .int 0, .int (-1)])), ((q 122), .inr (7, [.ref (q 126), .int 0, .int (-1)])), ((q 123), .inr (7, [.ref (q 127), .int 0, .int (-1)]))] := hD
              refine W.eq (g2 := F0 m 33 ls [.int 0]) rfl ?_
              exact EWz hx hb hr hlocks hS () rfl rfl trivial nil_P nil_D dX11_pour_33
            ·
              refine lv_iload hx hb dX11_pour_23 (lv_at hl 5 rfl) ?_
              refine lv_if_ge (tgt := 34) hx hb dX11_pour_25 (by decide) (fun c_83 => ?_) (fun c_83 => ?_)
              ·
                refine lv_aload_n hx hb dX11_pour_34 rfl (lv_at hl 0 rfl) ?_
                refine va_get (D := D) (ci := 11) (v := .ref (q 1)) (C := RX11) (T := TX11) (N := 16) hx hb hts iX11 hown hK hP 0 rfl rfl 0 (by decide) (hts _ qf_X11_11) (fun _ h => h) rfl dX11_pour_35 ?_
                refine lv_iload_n hx hb dX11_pour_38 rfl (lv_at hl 1 rfl) ?_
                refine va_aldq hx hb hK hP 1 3 rfl rfl (xin 2 4 rfl (by decide) (by decide)) dX11_pour_39 ?_
                refine W.eq (g2 := F0 m 40 ls [.ref (q 122)]) rfl ?_
                refine lv_astore (lv' := [(6, .ref (q 122)), (0, .ref (q 0)), (1, .int 2), (2, .int b), (3, .int 2), (4, .int d1), (5, .int e1)]) hx hb dX11_pour_40 hl (by decide) rfl (fun ls hl => ?_)
                refine lv_aload_n hx hb dX11_pour_42 rfl (lv_at hl 1 rfl) ?_
                refine va_get (D := D) (ci := 11) (v := .ref (q 1)) (C := RX11) (T := TX11) (N := 16) hx hb hts iX11 hown hK hP 0 rfl rfl 0 (by decide) (hts _ qf_X11_11) (fun _ h => h) rfl dX11_pour_43 ?_
                refine lv_iload_n hx hb dX11_pour_46 rfl (lv_at hl 4 rfl) ?_
                refine va_aldq hx hb hK hP 1 3 rfl rfl (xin 2 4 rfl (by decide) (by decide)) dX11_pour_47 ?_
                refine W.eq (g2 := F0 m 48 ls [.ref (q 122)]) rfl ?_
                refine lv_astore (lv' := [(7, .ref (q 122)), (6, .ref (q 122)), (0, .ref (q 0)), (1, .int 2), (2, .int b), (3, .int 2), (4, .int d1), (5, .int e1)]) hx hb dX11_pour_48 hl (by decide) rfl (fun ls hl => ?_)
                refine lv_aload hx hb dX11_pour_50 (lv_at hl 1 rfl) ?_
                refine CRV (As := []) (rest := []) hx hb hml hown hts hKK (hP.sub (ws' := [((q 122), .inr (7, [.ref (q 126), .int 0, .int (-1)]))]) [4] rfl) (c_isMissing l D k (q 122) [.ref (q 126), .int 0, .int (-1)] rfl) ci_X7_isMissing qm_X11_134 ⟨Nat.le_of_ble_eq_true rfl, Nat.le_of_ble_eq_true rfl⟩ ⟨Nat.le_of_ble_eq_true rfl, Nat.le_of_ble_eq_true rfl⟩ 0 rfl rfl rfl hl.1 rfl (Nat.le_of_ble_eq_true rfl) dX11_pour_52 ?_
                refine lv_if_ne (tgt := 66) hx hb dX11_pour_55 (by decide) (fun _ => ?_) (fun c => absurd c (by decide))
                refine lv_aload_n hx hb dX11_pour_66 rfl (lv_at hl 2 rfl) ?_
                refine lv_iconst (v := 2) hx hb dX11_pour_67 (by decide) ?_
                refine CWV (As := [.int 2]) (rest := []) (wc := [((q 0), .inr (11, [.ref (q 1), .ref (q 2), .ref (q 3), .ref (q 4), .ref (q 5), .ref (q 6), .ref (q 7), .ref (q 8), .ref (q 9), .ref (q 10), .ref (q 11), .int 0, .int 0, .int 0, .long 0, .long 1]))]) (wr := [((q 1), .inl (k 3, 4, .inr (.inr (.inr (.inr (fun i => some (q (120 + i)))))))), ((q 120), .inr (7, [.ref (q 124), .int 0, .int (-1)])), ((q 121), .inr (7, [.ref (q 125), .int 0, .int (-1)])), ((q 122), .inr (7, [.ref (q 126), .int 0, .int (-1)])), ((q 123), .inr (7, [.ref (q 127), .int 0, .int (-1)]))]) hx hb hml hown hts hKK hP hD hS hA (c_deny l D k (q 0) [.ref (q 1), .ref (q 2), .ref (q 3), .ref (q 4), .ref (q 5), .ref (q 6), .ref (q 7), .ref (q 8), .ref (q 9), .ref (q 10), .ref (q 11), .int 0, .int 0, .int 0, .long 0, .long 1] (Nat.le_of_ble_eq_true rfl) 2) ci_X11_deny qm_X11_107 ⟨Nat.le_of_ble_eq_true rfl, Nat.le_of_ble_eq_true rfl⟩ ⟨Nat.le_of_ble_eq_true rfl, Nat.le_of_ble_eq_true rfl⟩ [0] [1, 2, 3, 4, 5] rfl rfl rfl rfl rfl (by decide) 0 rfl rfl rfl hl.1 rfl (Nat.le_of_ble_eq_true rfl) dX11_pour_68 (fun u_84 H locs hφ hP hD hS => ?_)
                have hP : va_P D vwCl [((q 1), .inl (k 3, 4, .inr (.inr (.inr (.inr (fun i => some (q (120 + i)))))))), ((q 120), .inr (7, [.ref (q 124), .int 0, .int (-1)])), ((q 121), .inr (7, [.ref (q 125), .int 0, .int (-1)])), ((q 122), .inr (7, [.ref (q 126), .int 0, .int (-1)])), ((q 123), .inr (7, [.ref (q 127), .int 0, .int (-1)]))] H := hP
                have hD : va_D A [((q 1), .inl (k 3, 4, .inr (.inr (.inr (.inr (fun i => some (q (120 + i)))))))), ((q 120), .inr (7, [.ref (q 124), .int 0, .int (-1)])), ((q 121), .inr (7, [.ref (q 125), .int 0, .int (-1)])), ((q 122), .inr (7, [.ref (q 126), .int 0, .int (-1)])), ((q 123), .inr (7, [.ref (q 127), .int 0, .int (-1)]))] := hD
                refine W.eq (g2 := F0 m 71 ls [.int 0]) rfl ?_
                exact EWz hx hb hr hlocks hS () rfl rfl trivial nil_P nil_D dX11_pour_71
              ·
                refine lv_aload_n hx hb dX11_pour_28 rfl (lv_at hl 0 rfl) ?_
                refine lv_iconst (v := 1) hx hb dX11_pour_29 (by decide) ?_
                refine CWV (As := [.int 1]) (rest := []) (wc := [((q 0), .inr (11, [.ref (q 1), .ref (q 2), .ref (q 3), .ref (q 4), .ref (q 5), .ref (q 6), .ref (q 7), .ref (q 8), .ref (q 9), .ref (q 10), .ref (q 11), .int 0, .int 0, .int 0, .long 0, .long 1]))]) (wr := [((q 1), .inl (k 3, 4, .inr (.inr (.inr (.inr (fun i => some (q (120 + i)))))))), ((q 120), .inr (7, [.ref (q 124), .int 0, .int (-1)])), ((q 121), .inr (7, [.ref (q 125), .int 0, .int (-1)])), ((q 122), .inr (7, [.ref (q 126), .int 0, .int (-1)])), ((q 123), .inr (7, [.ref (q 127), .int 0, .int (-1)]))]) hx hb hml hown hts hKK hP hD hS hA (c_deny l D k (q 0) [.ref (q 1), .ref (q 2), .ref (q 3), .ref (q 4), .ref (q 5), .ref (q 6), .ref (q 7), .ref (q 8), .ref (q 9), .ref (q 10), .ref (q 11), .int 0, .int 0, .int 0, .long 0, .long 1] (Nat.le_of_ble_eq_true rfl) 1) ci_X11_deny qm_X11_107 ⟨Nat.le_of_ble_eq_true rfl, Nat.le_of_ble_eq_true rfl⟩ ⟨Nat.le_of_ble_eq_true rfl, Nat.le_of_ble_eq_true rfl⟩ [0] [1, 2, 3, 4, 5] rfl rfl rfl rfl rfl (by decide) 0 rfl rfl rfl hl.1 rfl (Nat.le_of_ble_eq_true rfl) dX11_pour_30 (fun u_85 H locs hφ hP hD hS => ?_)
                have hP : va_P D vwCl [((q 1), .inl (k 3, 4, .inr (.inr (.inr (.inr (fun i => some (q (120 + i)))))))), ((q 120), .inr (7, [.ref (q 124), .int 0, .int (-1)])), ((q 121), .inr (7, [.ref (q 125), .int 0, .int (-1)])), ((q 122), .inr (7, [.ref (q 126), .int 0, .int (-1)])), ((q 123), .inr (7, [.ref (q 127), .int 0, .int (-1)]))] H := hP
                have hD : va_D A [((q 1), .inl (k 3, 4, .inr (.inr (.inr (.inr (fun i => some (q (120 + i)))))))), ((q 120), .inr (7, [.ref (q 124), .int 0, .int (-1)])), ((q 121), .inr (7, [.ref (q 125), .int 0, .int (-1)])), ((q 122), .inr (7, [.ref (q 126), .int 0, .int (-1)])), ((q 123), .inr (7, [.ref (q 127), .int 0, .int (-1)]))] := hD
                refine W.eq (g2 := F0 m 33 ls [.int 0]) rfl ?_
                exact EWz hx hb hr hlocks hS () rfl rfl trivial nil_P nil_D dX11_pour_33
        ·
          refine lv_iload_n hx hb dX11_pour_14 rfl (lv_at hl 2 rfl) ?_
          refine lv_if_lt (tgt := 28) hx hb dX11_pour_15 (by decide) (fun c_86 => ?_) (fun c_86 => ?_)
          ·
            refine lv_aload_n hx hb dX11_pour_28 rfl (lv_at hl 0 rfl) ?_
            refine lv_iconst (v := 1) hx hb dX11_pour_29 (by decide) ?_
            refine CWV (As := [.int 1]) (rest := []) (wc := [((q 0), .inr (11, [.ref (q 1), .ref (q 2), .ref (q 3), .ref (q 4), .ref (q 5), .ref (q 6), .ref (q 7), .ref (q 8), .ref (q 9), .ref (q 10), .ref (q 11), .int 0, .int 0, .int 0, .long 0, .long 1]))]) (wr := [((q 1), .inl (k 3, 4, .inr (.inr (.inr (.inr (fun i => some (q (120 + i)))))))), ((q 120), .inr (7, [.ref (q 124), .int 0, .int (-1)])), ((q 121), .inr (7, [.ref (q 125), .int 0, .int (-1)])), ((q 122), .inr (7, [.ref (q 126), .int 0, .int (-1)])), ((q 123), .inr (7, [.ref (q 127), .int 0, .int (-1)]))]) hx hb hml hown hts hKK hP hD hS hA (c_deny l D k (q 0) [.ref (q 1), .ref (q 2), .ref (q 3), .ref (q 4), .ref (q 5), .ref (q 6), .ref (q 7), .ref (q 8), .ref (q 9), .ref (q 10), .ref (q 11), .int 0, .int 0, .int 0, .long 0, .long 1] (Nat.le_of_ble_eq_true rfl) 1) ci_X11_deny qm_X11_107 ⟨Nat.le_of_ble_eq_true rfl, Nat.le_of_ble_eq_true rfl⟩ ⟨Nat.le_of_ble_eq_true rfl, Nat.le_of_ble_eq_true rfl⟩ [0] [1, 2, 3, 4, 5] rfl rfl rfl rfl rfl (by decide) 0 rfl rfl rfl hl.1 rfl (Nat.le_of_ble_eq_true rfl) dX11_pour_30 (fun u_87 H locs hφ hP hD hS => ?_)
            have hP : va_P D vwCl [((q 1), .inl (k 3, 4, .inr (.inr (.inr (.inr (fun i => some (q (120 + i)))))))), ((q 120), .inr (7, [.ref (q 124), .int 0, .int (-1)])), ((q 121), .inr (7, [.ref (q 125), .int 0, .int (-1)])), ((q 122), .inr (7, [.ref (q 126), .int 0, .int (-1)])), ((q 123), .inr (7, [.ref (q 127), .int 0, .int (-1)]))] H := hP
            have hD : va_D A [((q 1), .inl (k 3, 4, .inr (.inr (.inr (.inr (fun i => some (q (120 + i)))))))), ((q 120), .inr (7, [.ref (q 124), .int 0, .int (-1)])), ((q 121), .inr (7, [.ref (q 125), .int 0, .int (-1)])), ((q 122), .inr (7, [.ref (q 126), .int 0, .int (-1)])), ((q 123), .inr (7, [.ref (q 127), .int 0, .int (-1)]))] := hD
            refine W.eq (g2 := F0 m 33 ls [.int 0]) rfl ?_
            exact EWz hx hb hr hlocks hS () rfl rfl trivial nil_P nil_D dX11_pour_33
          ·
            refine lv_iload hx hb dX11_pour_18 (lv_at hl 4 rfl) ?_
            refine lv_if_lt (tgt := 28) hx hb dX11_pour_20 (by decide) (fun c_88 => ?_) (fun c_88 => ?_)
            ·
              refine lv_aload_n hx hb dX11_pour_28 rfl (lv_at hl 0 rfl) ?_
              refine lv_iconst (v := 1) hx hb dX11_pour_29 (by decide) ?_
              refine CWV (As := [.int 1]) (rest := []) (wc := [((q 0), .inr (11, [.ref (q 1), .ref (q 2), .ref (q 3), .ref (q 4), .ref (q 5), .ref (q 6), .ref (q 7), .ref (q 8), .ref (q 9), .ref (q 10), .ref (q 11), .int 0, .int 0, .int 0, .long 0, .long 1]))]) (wr := [((q 1), .inl (k 3, 4, .inr (.inr (.inr (.inr (fun i => some (q (120 + i)))))))), ((q 120), .inr (7, [.ref (q 124), .int 0, .int (-1)])), ((q 121), .inr (7, [.ref (q 125), .int 0, .int (-1)])), ((q 122), .inr (7, [.ref (q 126), .int 0, .int (-1)])), ((q 123), .inr (7, [.ref (q 127), .int 0, .int (-1)]))]) hx hb hml hown hts hKK hP hD hS hA (c_deny l D k (q 0) [.ref (q 1), .ref (q 2), .ref (q 3), .ref (q 4), .ref (q 5), .ref (q 6), .ref (q 7), .ref (q 8), .ref (q 9), .ref (q 10), .ref (q 11), .int 0, .int 0, .int 0, .long 0, .long 1] (Nat.le_of_ble_eq_true rfl) 1) ci_X11_deny qm_X11_107 ⟨Nat.le_of_ble_eq_true rfl, Nat.le_of_ble_eq_true rfl⟩ ⟨Nat.le_of_ble_eq_true rfl, Nat.le_of_ble_eq_true rfl⟩ [0] [1, 2, 3, 4, 5] rfl rfl rfl rfl rfl (by decide) 0 rfl rfl rfl hl.1 rfl (Nat.le_of_ble_eq_true rfl) dX11_pour_30 (fun u_89 H locs hφ hP hD hS => ?_)
              have hP : va_P D vwCl [((q 1), .inl (k 3, 4, .inr (.inr (.inr (.inr (fun i => some (q (120 + i)))))))), ((q 120), .inr (7, [.ref (q 124), .int 0, .int (-1)])), ((q 121), .inr (7, [.ref (q 125), .int 0, .int (-1)])), ((q 122), .inr (7, [.ref (q 126), .int 0, .int (-1)])), ((q 123), .inr (7, [.ref (q 127), .int 0, .int (-1)]))] H := hP
              have hD : va_D A [((q 1), .inl (k 3, 4, .inr (.inr (.inr (.inr (fun i => some (q (120 + i)))))))), ((q 120), .inr (7, [.ref (q 124), .int 0, .int (-1)])), ((q 121), .inr (7, [.ref (q 125), .int 0, .int (-1)])), ((q 122), .inr (7, [.ref (q 126), .int 0, .int (-1)])), ((q 123), .inr (7, [.ref (q 127), .int 0, .int (-1)]))] := hD
              refine W.eq (g2 := F0 m 33 ls [.int 0]) rfl ?_
              exact EWz hx hb hr hlocks hS () rfl rfl trivial nil_P nil_D dX11_pour_33
            ·
              refine lv_iload hx hb dX11_pour_23 (lv_at hl 5 rfl) ?_
              refine lv_if_ge (tgt := 34) hx hb dX11_pour_25 (by decide) (fun c_90 => ?_) (fun c_90 => ?_)
              ·
                refine lv_aload_n hx hb dX11_pour_34 rfl (lv_at hl 0 rfl) ?_
                refine va_get (D := D) (ci := 11) (v := .ref (q 1)) (C := RX11) (T := TX11) (N := 16) hx hb hts iX11 hown hK hP 0 rfl rfl 0 (by decide) (hts _ qf_X11_11) (fun _ h => h) rfl dX11_pour_35 ?_
                refine lv_iload_n hx hb dX11_pour_38 rfl (lv_at hl 1 rfl) ?_
                refine va_aldq hx hb hK hP 1 3 rfl rfl (xin 2 4 rfl (by decide) (by decide)) dX11_pour_39 ?_
                refine W.eq (g2 := F0 m 40 ls [.ref (q 122)]) rfl ?_
                refine lv_astore (lv' := [(6, .ref (q 122)), (0, .ref (q 0)), (1, .int 2), (2, .int b), (3, .int 3), (4, .int d1), (5, .int e1)]) hx hb dX11_pour_40 hl (by decide) rfl (fun ls hl => ?_)
                refine lv_aload_n hx hb dX11_pour_42 rfl (lv_at hl 1 rfl) ?_
                refine va_get (D := D) (ci := 11) (v := .ref (q 1)) (C := RX11) (T := TX11) (N := 16) hx hb hts iX11 hown hK hP 0 rfl rfl 0 (by decide) (hts _ qf_X11_11) (fun _ h => h) rfl dX11_pour_43 ?_
                refine lv_iload_n hx hb dX11_pour_46 rfl (lv_at hl 4 rfl) ?_
                refine va_aldq hx hb hK hP 1 3 rfl rfl (xin 3 4 rfl (by decide) (by decide)) dX11_pour_47 ?_
                refine W.eq (g2 := F0 m 48 ls [.ref (q 123)]) rfl ?_
                refine lv_astore (lv' := [(7, .ref (q 123)), (6, .ref (q 122)), (0, .ref (q 0)), (1, .int 2), (2, .int b), (3, .int 3), (4, .int d1), (5, .int e1)]) hx hb dX11_pour_48 hl (by decide) rfl (fun ls hl => ?_)
                refine lv_aload hx hb dX11_pour_50 (lv_at hl 1 rfl) ?_
                refine CRV (As := []) (rest := []) hx hb hml hown hts hKK (hP.sub (ws' := [((q 122), .inr (7, [.ref (q 126), .int 0, .int (-1)]))]) [4] rfl) (c_isMissing l D k (q 122) [.ref (q 126), .int 0, .int (-1)] rfl) ci_X7_isMissing qm_X11_134 ⟨Nat.le_of_ble_eq_true rfl, Nat.le_of_ble_eq_true rfl⟩ ⟨Nat.le_of_ble_eq_true rfl, Nat.le_of_ble_eq_true rfl⟩ 0 rfl rfl rfl hl.1 rfl (Nat.le_of_ble_eq_true rfl) dX11_pour_52 ?_
                refine lv_if_ne (tgt := 66) hx hb dX11_pour_55 (by decide) (fun _ => ?_) (fun c => absurd c (by decide))
                refine lv_aload_n hx hb dX11_pour_66 rfl (lv_at hl 2 rfl) ?_
                refine lv_iconst (v := 2) hx hb dX11_pour_67 (by decide) ?_
                refine CWV (As := [.int 2]) (rest := []) (wc := [((q 0), .inr (11, [.ref (q 1), .ref (q 2), .ref (q 3), .ref (q 4), .ref (q 5), .ref (q 6), .ref (q 7), .ref (q 8), .ref (q 9), .ref (q 10), .ref (q 11), .int 0, .int 0, .int 0, .long 0, .long 1]))]) (wr := [((q 1), .inl (k 3, 4, .inr (.inr (.inr (.inr (fun i => some (q (120 + i)))))))), ((q 120), .inr (7, [.ref (q 124), .int 0, .int (-1)])), ((q 121), .inr (7, [.ref (q 125), .int 0, .int (-1)])), ((q 122), .inr (7, [.ref (q 126), .int 0, .int (-1)])), ((q 123), .inr (7, [.ref (q 127), .int 0, .int (-1)]))]) hx hb hml hown hts hKK hP hD hS hA (c_deny l D k (q 0) [.ref (q 1), .ref (q 2), .ref (q 3), .ref (q 4), .ref (q 5), .ref (q 6), .ref (q 7), .ref (q 8), .ref (q 9), .ref (q 10), .ref (q 11), .int 0, .int 0, .int 0, .long 0, .long 1] (Nat.le_of_ble_eq_true rfl) 2) ci_X11_deny qm_X11_107 ⟨Nat.le_of_ble_eq_true rfl, Nat.le_of_ble_eq_true rfl⟩ ⟨Nat.le_of_ble_eq_true rfl, Nat.le_of_ble_eq_true rfl⟩ [0] [1, 2, 3, 4, 5] rfl rfl rfl rfl rfl (by decide) 0 rfl rfl rfl hl.1 rfl (Nat.le_of_ble_eq_true rfl) dX11_pour_68 (fun u_91 H locs hφ hP hD hS => ?_)
                have hP : va_P D vwCl [((q 1), .inl (k 3, 4, .inr (.inr (.inr (.inr (fun i => some (q (120 + i)))))))), ((q 120), .inr (7, [.ref (q 124), .int 0, .int (-1)])), ((q 121), .inr (7, [.ref (q 125), .int 0, .int (-1)])), ((q 122), .inr (7, [.ref (q 126), .int 0, .int (-1)])), ((q 123), .inr (7, [.ref (q 127), .int 0, .int (-1)]))] H := hP
                have hD : va_D A [((q 1), .inl (k 3, 4, .inr (.inr (.inr (.inr (fun i => some (q (120 + i)))))))), ((q 120), .inr (7, [.ref (q 124), .int 0, .int (-1)])), ((q 121), .inr (7, [.ref (q 125), .int 0, .int (-1)])), ((q 122), .inr (7, [.ref (q 126), .int 0, .int (-1)])), ((q 123), .inr (7, [.ref (q 127), .int 0, .int (-1)]))] := hD
                refine W.eq (g2 := F0 m 71 ls [.int 0]) rfl ?_
                exact EWz hx hb hr hlocks hS () rfl rfl trivial nil_P nil_D dX11_pour_71
              ·
                refine lv_aload_n hx hb dX11_pour_28 rfl (lv_at hl 0 rfl) ?_
                refine lv_iconst (v := 1) hx hb dX11_pour_29 (by decide) ?_
                refine CWV (As := [.int 1]) (rest := []) (wc := [((q 0), .inr (11, [.ref (q 1), .ref (q 2), .ref (q 3), .ref (q 4), .ref (q 5), .ref (q 6), .ref (q 7), .ref (q 8), .ref (q 9), .ref (q 10), .ref (q 11), .int 0, .int 0, .int 0, .long 0, .long 1]))]) (wr := [((q 1), .inl (k 3, 4, .inr (.inr (.inr (.inr (fun i => some (q (120 + i)))))))), ((q 120), .inr (7, [.ref (q 124), .int 0, .int (-1)])), ((q 121), .inr (7, [.ref (q 125), .int 0, .int (-1)])), ((q 122), .inr (7, [.ref (q 126), .int 0, .int (-1)])), ((q 123), .inr (7, [.ref (q 127), .int 0, .int (-1)]))]) hx hb hml hown hts hKK hP hD hS hA (c_deny l D k (q 0) [.ref (q 1), .ref (q 2), .ref (q 3), .ref (q 4), .ref (q 5), .ref (q 6), .ref (q 7), .ref (q 8), .ref (q 9), .ref (q 10), .ref (q 11), .int 0, .int 0, .int 0, .long 0, .long 1] (Nat.le_of_ble_eq_true rfl) 1) ci_X11_deny qm_X11_107 ⟨Nat.le_of_ble_eq_true rfl, Nat.le_of_ble_eq_true rfl⟩ ⟨Nat.le_of_ble_eq_true rfl, Nat.le_of_ble_eq_true rfl⟩ [0] [1, 2, 3, 4, 5] rfl rfl rfl rfl rfl (by decide) 0 rfl rfl rfl hl.1 rfl (Nat.le_of_ble_eq_true rfl) dX11_pour_30 (fun u_92 H locs hφ hP hD hS => ?_)
                have hP : va_P D vwCl [((q 1), .inl (k 3, 4, .inr (.inr (.inr (.inr (fun i => some (q (120 + i)))))))), ((q 120), .inr (7, [.ref (q 124), .int 0, .int (-1)])), ((q 121), .inr (7, [.ref (q 125), .int 0, .int (-1)])), ((q 122), .inr (7, [.ref (q 126), .int 0, .int (-1)])), ((q 123), .inr (7, [.ref (q 127), .int 0, .int (-1)]))] H := hP
                have hD : va_D A [((q 1), .inl (k 3, 4, .inr (.inr (.inr (.inr (fun i => some (q (120 + i)))))))), ((q 120), .inr (7, [.ref (q 124), .int 0, .int (-1)])), ((q 121), .inr (7, [.ref (q 125), .int 0, .int (-1)])), ((q 122), .inr (7, [.ref (q 126), .int 0, .int (-1)])), ((q 123), .inr (7, [.ref (q 127), .int 0, .int (-1)]))] := hD
                refine W.eq (g2 := F0 m 33 ls [.int 0]) rfl ?_
                exact EWz hx hb hr hlocks hS () rfl rfl trivial nil_P nil_D dX11_pour_33
    ·
      refine lv_iload_n hx hb dX11_pour_7 rfl (lv_at hl 3 rfl) ?_
      refine CRS (As := [.int c1]) (rest := []) hx hb hml hown hts hKK (hP.sub (ws' := []) [] rfl) (c_isTray l D k c1) ci_X11_isTray qm_X11_99 ⟨Nat.le_of_ble_eq_true rfl, Nat.le_of_ble_eq_true rfl⟩ ⟨Nat.le_of_ble_eq_true rfl, Nat.le_of_ble_eq_true rfl⟩ rfl hl.1 rfl (Nat.le_of_ble_eq_true rfl) dX11_pour_8 ?_
      refine lv_if_eq (tgt := 28) hx hb dX11_pour_11 (by decide) (fun c_93 => ?_) (fun c_93 => ?_)
      ·
        refine lv_aload_n hx hb dX11_pour_28 rfl (lv_at hl 0 rfl) ?_
        refine lv_iconst (v := 1) hx hb dX11_pour_29 (by decide) ?_
        refine CWV (As := [.int 1]) (rest := []) (wc := [((q 0), .inr (11, [.ref (q 1), .ref (q 2), .ref (q 3), .ref (q 4), .ref (q 5), .ref (q 6), .ref (q 7), .ref (q 8), .ref (q 9), .ref (q 10), .ref (q 11), .int 0, .int 0, .int 0, .long 0, .long 1]))]) (wr := [((q 1), .inl (k 3, 4, .inr (.inr (.inr (.inr (fun i => some (q (120 + i)))))))), ((q 120), .inr (7, [.ref (q 124), .int 0, .int (-1)])), ((q 121), .inr (7, [.ref (q 125), .int 0, .int (-1)])), ((q 122), .inr (7, [.ref (q 126), .int 0, .int (-1)])), ((q 123), .inr (7, [.ref (q 127), .int 0, .int (-1)]))]) hx hb hml hown hts hKK hP hD hS hA (c_deny l D k (q 0) [.ref (q 1), .ref (q 2), .ref (q 3), .ref (q 4), .ref (q 5), .ref (q 6), .ref (q 7), .ref (q 8), .ref (q 9), .ref (q 10), .ref (q 11), .int 0, .int 0, .int 0, .long 0, .long 1] (Nat.le_of_ble_eq_true rfl) 1) ci_X11_deny qm_X11_107 ⟨Nat.le_of_ble_eq_true rfl, Nat.le_of_ble_eq_true rfl⟩ ⟨Nat.le_of_ble_eq_true rfl, Nat.le_of_ble_eq_true rfl⟩ [0] [1, 2, 3, 4, 5] rfl rfl rfl rfl rfl (by decide) 0 rfl rfl rfl hl.1 rfl (Nat.le_of_ble_eq_true rfl) dX11_pour_30 (fun u_94 H locs hφ hP hD hS => ?_)
        have hP : va_P D vwCl [((q 1), .inl (k 3, 4, .inr (.inr (.inr (.inr (fun i => some (q (120 + i)))))))), ((q 120), .inr (7, [.ref (q 124), .int 0, .int (-1)])), ((q 121), .inr (7, [.ref (q 125), .int 0, .int (-1)])), ((q 122), .inr (7, [.ref (q 126), .int 0, .int (-1)])), ((q 123), .inr (7, [.ref (q 127), .int 0, .int (-1)]))] H := hP
        have hD : va_D A [((q 1), .inl (k 3, 4, .inr (.inr (.inr (.inr (fun i => some (q (120 + i)))))))), ((q 120), .inr (7, [.ref (q 124), .int 0, .int (-1)])), ((q 121), .inr (7, [.ref (q 125), .int 0, .int (-1)])), ((q 122), .inr (7, [.ref (q 126), .int 0, .int (-1)])), ((q 123), .inr (7, [.ref (q 127), .int 0, .int (-1)]))] := hD
        refine W.eq (g2 := F0 m 33 ls [.int 0]) rfl ?_
        exact EWz hx hb hr hlocks hS () rfl rfl trivial nil_P nil_D dX11_pour_33
      ·
        obtain rfl | rfl | rfl | rfl := bw4 c_93
        ·
          refine lv_iload_n hx hb dX11_pour_14 rfl (lv_at hl 2 rfl) ?_
          refine lv_if_lt (tgt := 28) hx hb dX11_pour_15 (by decide) (fun c_95 => ?_) (fun c_95 => ?_)
          ·
            refine lv_aload_n hx hb dX11_pour_28 rfl (lv_at hl 0 rfl) ?_
            refine lv_iconst (v := 1) hx hb dX11_pour_29 (by decide) ?_
            refine CWV (As := [.int 1]) (rest := []) (wc := [((q 0), .inr (11, [.ref (q 1), .ref (q 2), .ref (q 3), .ref (q 4), .ref (q 5), .ref (q 6), .ref (q 7), .ref (q 8), .ref (q 9), .ref (q 10), .ref (q 11), .int 0, .int 0, .int 0, .long 0, .long 1]))]) (wr := [((q 1), .inl (k 3, 4, .inr (.inr (.inr (.inr (fun i => some (q (120 + i)))))))), ((q 120), .inr (7, [.ref (q 124), .int 0, .int (-1)])), ((q 121), .inr (7, [.ref (q 125), .int 0, .int (-1)])), ((q 122), .inr (7, [.ref (q 126), .int 0, .int (-1)])), ((q 123), .inr (7, [.ref (q 127), .int 0, .int (-1)]))]) hx hb hml hown hts hKK hP hD hS hA (c_deny l D k (q 0) [.ref (q 1), .ref (q 2), .ref (q 3), .ref (q 4), .ref (q 5), .ref (q 6), .ref (q 7), .ref (q 8), .ref (q 9), .ref (q 10), .ref (q 11), .int 0, .int 0, .int 0, .long 0, .long 1] (Nat.le_of_ble_eq_true rfl) 1) ci_X11_deny qm_X11_107 ⟨Nat.le_of_ble_eq_true rfl, Nat.le_of_ble_eq_true rfl⟩ ⟨Nat.le_of_ble_eq_true rfl, Nat.le_of_ble_eq_true rfl⟩ [0] [1, 2, 3, 4, 5] rfl rfl rfl rfl rfl (by decide) 0 rfl rfl rfl hl.1 rfl (Nat.le_of_ble_eq_true rfl) dX11_pour_30 (fun u_96 H locs hφ hP hD hS => ?_)
            have hP : va_P D vwCl [((q 1), .inl (k 3, 4, .inr (.inr (.inr (.inr (fun i => some (q (120 + i)))))))), ((q 120), .inr (7, [.ref (q 124), .int 0, .int (-1)])), ((q 121), .inr (7, [.ref (q 125), .int 0, .int (-1)])), ((q 122), .inr (7, [.ref (q 126), .int 0, .int (-1)])), ((q 123), .inr (7, [.ref (q 127), .int 0, .int (-1)]))] H := hP
            have hD : va_D A [((q 1), .inl (k 3, 4, .inr (.inr (.inr (.inr (fun i => some (q (120 + i)))))))), ((q 120), .inr (7, [.ref (q 124), .int 0, .int (-1)])), ((q 121), .inr (7, [.ref (q 125), .int 0, .int (-1)])), ((q 122), .inr (7, [.ref (q 126), .int 0, .int (-1)])), ((q 123), .inr (7, [.ref (q 127), .int 0, .int (-1)]))] := hD
            refine W.eq (g2 := F0 m 33 ls [.int 0]) rfl ?_
            exact EWz hx hb hr hlocks hS () rfl rfl trivial nil_P nil_D dX11_pour_33
          ·
            refine lv_iload hx hb dX11_pour_18 (lv_at hl 4 rfl) ?_
            refine lv_if_lt (tgt := 28) hx hb dX11_pour_20 (by decide) (fun c_97 => ?_) (fun c_97 => ?_)
            ·
              refine lv_aload_n hx hb dX11_pour_28 rfl (lv_at hl 0 rfl) ?_
              refine lv_iconst (v := 1) hx hb dX11_pour_29 (by decide) ?_
              refine CWV (As := [.int 1]) (rest := []) (wc := [((q 0), .inr (11, [.ref (q 1), .ref (q 2), .ref (q 3), .ref (q 4), .ref (q 5), .ref (q 6), .ref (q 7), .ref (q 8), .ref (q 9), .ref (q 10), .ref (q 11), .int 0, .int 0, .int 0, .long 0, .long 1]))]) (wr := [((q 1), .inl (k 3, 4, .inr (.inr (.inr (.inr (fun i => some (q (120 + i)))))))), ((q 120), .inr (7, [.ref (q 124), .int 0, .int (-1)])), ((q 121), .inr (7, [.ref (q 125), .int 0, .int (-1)])), ((q 122), .inr (7, [.ref (q 126), .int 0, .int (-1)])), ((q 123), .inr (7, [.ref (q 127), .int 0, .int (-1)]))]) hx hb hml hown hts hKK hP hD hS hA (c_deny l D k (q 0) [.ref (q 1), .ref (q 2), .ref (q 3), .ref (q 4), .ref (q 5), .ref (q 6), .ref (q 7), .ref (q 8), .ref (q 9), .ref (q 10), .ref (q 11), .int 0, .int 0, .int 0, .long 0, .long 1] (Nat.le_of_ble_eq_true rfl) 1) ci_X11_deny qm_X11_107 ⟨Nat.le_of_ble_eq_true rfl, Nat.le_of_ble_eq_true rfl⟩ ⟨Nat.le_of_ble_eq_true rfl, Nat.le_of_ble_eq_true rfl⟩ [0] [1, 2, 3, 4, 5] rfl rfl rfl rfl rfl (by decide) 0 rfl rfl rfl hl.1 rfl (Nat.le_of_ble_eq_true rfl) dX11_pour_30 (fun u_98 H locs hφ hP hD hS => ?_)
              have hP : va_P D vwCl [((q 1), .inl (k 3, 4, .inr (.inr (.inr (.inr (fun i => some (q (120 + i)))))))), ((q 120), .inr (7, [.ref (q 124), .int 0, .int (-1)])), ((q 121), .inr (7, [.ref (q 125), .int 0, .int (-1)])), ((q 122), .inr (7, [.ref (q 126), .int 0, .int (-1)])), ((q 123), .inr (7, [.ref (q 127), .int 0, .int (-1)]))] H := hP
              have hD : va_D A [((q 1), .inl (k 3, 4, .inr (.inr (.inr (.inr (fun i => some (q (120 + i)))))))), ((q 120), .inr (7, [.ref (q 124), .int 0, .int (-1)])), ((q 121), .inr (7, [.ref (q 125), .int 0, .int (-1)])), ((q 122), .inr (7, [.ref (q 126), .int 0, .int (-1)])), ((q 123), .inr (7, [.ref (q 127), .int 0, .int (-1)]))] := hD
              refine W.eq (g2 := F0 m 33 ls [.int 0]) rfl ?_
              exact EWz hx hb hr hlocks hS () rfl rfl trivial nil_P nil_D dX11_pour_33
            ·
              refine lv_iload hx hb dX11_pour_23 (lv_at hl 5 rfl) ?_
              refine lv_if_ge (tgt := 34) hx hb dX11_pour_25 (by decide) (fun c_99 => ?_) (fun c_99 => ?_)
              ·
                refine lv_aload_n hx hb dX11_pour_34 rfl (lv_at hl 0 rfl) ?_
                refine va_get (D := D) (ci := 11) (v := .ref (q 1)) (C := RX11) (T := TX11) (N := 16) hx hb hts iX11 hown hK hP 0 rfl rfl 0 (by decide) (hts _ qf_X11_11) (fun _ h => h) rfl dX11_pour_35 ?_
                refine lv_iload_n hx hb dX11_pour_38 rfl (lv_at hl 1 rfl) ?_
                refine va_aldq hx hb hK hP 1 3 rfl rfl (xin 3 4 rfl (by decide) (by decide)) dX11_pour_39 ?_
                refine W.eq (g2 := F0 m 40 ls [.ref (q 123)]) rfl ?_
                refine lv_astore (lv' := [(6, .ref (q 123)), (0, .ref (q 0)), (1, .int 3), (2, .int b), (3, .int 0), (4, .int d1), (5, .int e1)]) hx hb dX11_pour_40 hl (by decide) rfl (fun ls hl => ?_)
                refine lv_aload_n hx hb dX11_pour_42 rfl (lv_at hl 1 rfl) ?_
                refine va_get (D := D) (ci := 11) (v := .ref (q 1)) (C := RX11) (T := TX11) (N := 16) hx hb hts iX11 hown hK hP 0 rfl rfl 0 (by decide) (hts _ qf_X11_11) (fun _ h => h) rfl dX11_pour_43 ?_
                refine lv_iload_n hx hb dX11_pour_46 rfl (lv_at hl 4 rfl) ?_
                refine va_aldq hx hb hK hP 1 3 rfl rfl (xin 0 4 rfl (by decide) (by decide)) dX11_pour_47 ?_
                refine W.eq (g2 := F0 m 48 ls [.ref (q 120)]) rfl ?_
                refine lv_astore (lv' := [(7, .ref (q 120)), (6, .ref (q 123)), (0, .ref (q 0)), (1, .int 3), (2, .int b), (3, .int 0), (4, .int d1), (5, .int e1)]) hx hb dX11_pour_48 hl (by decide) rfl (fun ls hl => ?_)
                refine lv_aload hx hb dX11_pour_50 (lv_at hl 1 rfl) ?_
                refine CRV (As := []) (rest := []) hx hb hml hown hts hKK (hP.sub (ws' := [((q 123), .inr (7, [.ref (q 127), .int 0, .int (-1)]))]) [5] rfl) (c_isMissing l D k (q 123) [.ref (q 127), .int 0, .int (-1)] rfl) ci_X7_isMissing qm_X11_134 ⟨Nat.le_of_ble_eq_true rfl, Nat.le_of_ble_eq_true rfl⟩ ⟨Nat.le_of_ble_eq_true rfl, Nat.le_of_ble_eq_true rfl⟩ 0 rfl rfl rfl hl.1 rfl (Nat.le_of_ble_eq_true rfl) dX11_pour_52 ?_
                refine lv_if_ne (tgt := 66) hx hb dX11_pour_55 (by decide) (fun _ => ?_) (fun c => absurd c (by decide))
                refine lv_aload_n hx hb dX11_pour_66 rfl (lv_at hl 2 rfl) ?_
                refine lv_iconst (v := 2) hx hb dX11_pour_67 (by decide) ?_
                refine CWV (As := [.int 2]) (rest := []) (wc := [((q 0), .inr (11, [.ref (q 1), .ref (q 2), .ref (q 3), .ref (q 4), .ref (q 5), .ref (q 6), .ref (q 7), .ref (q 8), .ref (q 9), .ref (q 10), .ref (q 11), .int 0, .int 0, .int 0, .long 0, .long 1]))]) (wr := [((q 1), .inl (k 3, 4, .inr (.inr (.inr (.inr (fun i => some (q (120 + i)))))))), ((q 120), .inr (7, [.ref (q 124), .int 0, .int (-1)])), ((q 121), .inr (7, [.ref (q 125), .int 0, .int (-1)])), ((q 122), .inr (7, [.ref (q 126), .int 0, .int (-1)])), ((q 123), .inr (7, [.ref (q 127), .int 0, .int (-1)]))]) hx hb hml hown hts hKK hP hD hS hA (c_deny l D k (q 0) [.ref (q 1), .ref (q 2), .ref (q 3), .ref (q 4), .ref (q 5), .ref (q 6), .ref (q 7), .ref (q 8), .ref (q 9), .ref (q 10), .ref (q 11), .int 0, .int 0, .int 0, .long 0, .long 1] (Nat.le_of_ble_eq_true rfl) 2) ci_X11_deny qm_X11_107 ⟨Nat.le_of_ble_eq_true rfl, Nat.le_of_ble_eq_true rfl⟩ ⟨Nat.le_of_ble_eq_true rfl, Nat.le_of_ble_eq_true rfl⟩ [0] [1, 2, 3, 4, 5] rfl rfl rfl rfl rfl (by decide) 0 rfl rfl rfl hl.1 rfl (Nat.le_of_ble_eq_true rfl) dX11_pour_68 (fun u_100 H locs hφ hP hD hS => ?_)
                have hP : va_P D vwCl [((q 1), .inl (k 3, 4, .inr (.inr (.inr (.inr (fun i => some (q (120 + i)))))))), ((q 120), .inr (7, [.ref (q 124), .int 0, .int (-1)])), ((q 121), .inr (7, [.ref (q 125), .int 0, .int (-1)])), ((q 122), .inr (7, [.ref (q 126), .int 0, .int (-1)])), ((q 123), .inr (7, [.ref (q 127), .int 0, .int (-1)]))] H := hP
                have hD : va_D A [((q 1), .inl (k 3, 4, .inr (.inr (.inr (.inr (fun i => some (q (120 + i)))))))), ((q 120), .inr (7, [.ref (q 124), .int 0, .int (-1)])), ((q 121), .inr (7, [.ref (q 125), .int 0, .int (-1)])), ((q 122), .inr (7, [.ref (q 126), .int 0, .int (-1)])), ((q 123), .inr (7, [.ref (q 127), .int 0, .int (-1)]))] := hD
                refine W.eq (g2 := F0 m 71 ls [.int 0]) rfl ?_
                exact EWz hx hb hr hlocks hS () rfl rfl trivial nil_P nil_D dX11_pour_71
              ·
                refine lv_aload_n hx hb dX11_pour_28 rfl (lv_at hl 0 rfl) ?_
                refine lv_iconst (v := 1) hx hb dX11_pour_29 (by decide) ?_
                refine CWV (As := [.int 1]) (rest := []) (wc := [((q 0), .inr (11, [.ref (q 1), .ref (q 2), .ref (q 3), .ref (q 4), .ref (q 5), .ref (q 6), .ref (q 7), .ref (q 8), .ref (q 9), .ref (q 10), .ref (q 11), .int 0, .int 0, .int 0, .long 0, .long 1]))]) (wr := [((q 1), .inl (k 3, 4, .inr (.inr (.inr (.inr (fun i => some (q (120 + i)))))))), ((q 120), .inr (7, [.ref (q 124), .int 0, .int (-1)])), ((q 121), .inr (7, [.ref (q 125), .int 0, .int (-1)])), ((q 122), .inr (7, [.ref (q 126), .int 0, .int (-1)])), ((q 123), .inr (7, [.ref (q 127), .int 0, .int (-1)]))]) hx hb hml hown hts hKK hP hD hS hA (c_deny l D k (q 0) [.ref (q 1), .ref (q 2), .ref (q 3), .ref (q 4), .ref (q 5), .ref (q 6), .ref (q 7), .ref (q 8), .ref (q 9), .ref (q 10), .ref (q 11), .int 0, .int 0, .int 0, .long 0, .long 1] (Nat.le_of_ble_eq_true rfl) 1) ci_X11_deny qm_X11_107 ⟨Nat.le_of_ble_eq_true rfl, Nat.le_of_ble_eq_true rfl⟩ ⟨Nat.le_of_ble_eq_true rfl, Nat.le_of_ble_eq_true rfl⟩ [0] [1, 2, 3, 4, 5] rfl rfl rfl rfl rfl (by decide) 0 rfl rfl rfl hl.1 rfl (Nat.le_of_ble_eq_true rfl) dX11_pour_30 (fun u_101 H locs hφ hP hD hS => ?_)
                have hP : va_P D vwCl [((q 1), .inl (k 3, 4, .inr (.inr (.inr (.inr (fun i => some (q (120 + i)))))))), ((q 120), .inr (7, [.ref (q 124), .int 0, .int (-1)])), ((q 121), .inr (7, [.ref (q 125), .int 0, .int (-1)])), ((q 122), .inr (7, [.ref (q 126), .int 0, .int (-1)])), ((q 123), .inr (7, [.ref (q 127), .int 0, .int (-1)]))] H := hP
                have hD : va_D A [((q 1), .inl (k 3, 4, .inr (.inr (.inr (.inr (fun i => some (q (120 + i)))))))), ((q 120), .inr (7, [.ref (q 124), .int 0, .int (-1)])), ((q 121), .inr (7, [.ref (q 125), .int 0, .int (-1)])), ((q 122), .inr (7, [.ref (q 126), .int 0, .int (-1)])), ((q 123), .inr (7, [.ref (q 127), .int 0, .int (-1)]))] := hD
                refine W.eq (g2 := F0 m 33 ls [.int 0]) rfl ?_
                exact EWz hx hb hr hlocks hS () rfl rfl trivial nil_P nil_D dX11_pour_33
        ·
          refine lv_iload_n hx hb dX11_pour_14 rfl (lv_at hl 2 rfl) ?_
          refine lv_if_lt (tgt := 28) hx hb dX11_pour_15 (by decide) (fun c_102 => ?_) (fun c_102 => ?_)
          ·
            refine lv_aload_n hx hb dX11_pour_28 rfl (lv_at hl 0 rfl) ?_
            refine lv_iconst (v := 1) hx hb dX11_pour_29 (by decide) ?_
            refine CWV (As := [.int 1]) (rest := []) (wc := [((q 0), .inr (11, [.ref (q 1), .ref (q 2), .ref (q 3), .ref (q 4), .ref (q 5), .ref (q 6), .ref (q 7), .ref (q 8), .ref (q 9), .ref (q 10), .ref (q 11), .int 0, .int 0, .int 0, .long 0, .long 1]))]) (wr := [((q 1), .inl (k 3, 4, .inr (.inr (.inr (.inr (fun i => some (q (120 + i)))))))), ((q 120), .inr (7, [.ref (q 124), .int 0, .int (-1)])), ((q 121), .inr (7, [.ref (q 125), .int 0, .int (-1)])), ((q 122), .inr (7, [.ref (q 126), .int 0, .int (-1)])), ((q 123), .inr (7, [.ref (q 127), .int 0, .int (-1)]))]) hx hb hml hown hts hKK hP hD hS hA (c_deny l D k (q 0) [.ref (q 1), .ref (q 2), .ref (q 3), .ref (q 4), .ref (q 5), .ref (q 6), .ref (q 7), .ref (q 8), .ref (q 9), .ref (q 10), .ref (q 11), .int 0, .int 0, .int 0, .long 0, .long 1] (Nat.le_of_ble_eq_true rfl) 1) ci_X11_deny qm_X11_107 ⟨Nat.le_of_ble_eq_true rfl, Nat.le_of_ble_eq_true rfl⟩ ⟨Nat.le_of_ble_eq_true rfl, Nat.le_of_ble_eq_true rfl⟩ [0] [1, 2, 3, 4, 5] rfl rfl rfl rfl rfl (by decide) 0 rfl rfl rfl hl.1 rfl (Nat.le_of_ble_eq_true rfl) dX11_pour_30 (fun u_103 H locs hφ hP hD hS => ?_)
            have hP : va_P D vwCl [((q 1), .inl (k 3, 4, .inr (.inr (.inr (.inr (fun i => some (q (120 + i)))))))), ((q 120), .inr (7, [.ref (q 124), .int 0, .int (-1)])), ((q 121), .inr (7, [.ref (q 125), .int 0, .int (-1)])), ((q 122), .inr (7, [.ref (q 126), .int 0, .int (-1)])), ((q 123), .inr (7, [.ref (q 127), .int 0, .int (-1)]))] H := hP
            have hD : va_D A [((q 1), .inl (k 3, 4, .inr (.inr (.inr (.inr (fun i => some (q (120 + i)))))))), ((q 120), .inr (7, [.ref (q 124), .int 0, .int (-1)])), ((q 121), .inr (7, [.ref (q 125), .int 0, .int (-1)])), ((q 122), .inr (7, [.ref (q 126), .int 0, .int (-1)])), ((q 123), .inr (7, [.ref (q 127), .int 0, .int (-1)]))] := hD
            refine W.eq (g2 := F0 m 33 ls [.int 0]) rfl ?_
            exact EWz hx hb hr hlocks hS () rfl rfl trivial nil_P nil_D dX11_pour_33
          ·
            refine lv_iload hx hb dX11_pour_18 (lv_at hl 4 rfl) ?_
            refine lv_if_lt (tgt := 28) hx hb dX11_pour_20 (by decide) (fun c_104 => ?_) (fun c_104 => ?_)
            ·
              refine lv_aload_n hx hb dX11_pour_28 rfl (lv_at hl 0 rfl) ?_
              refine lv_iconst (v := 1) hx hb dX11_pour_29 (by decide) ?_
              refine CWV (As := [.int 1]) (rest := []) (wc := [((q 0), .inr (11, [.ref (q 1), .ref (q 2), .ref (q 3), .ref (q 4), .ref (q 5), .ref (q 6), .ref (q 7), .ref (q 8), .ref (q 9), .ref (q 10), .ref (q 11), .int 0, .int 0, .int 0, .long 0, .long 1]))]) (wr := [((q 1), .inl (k 3, 4, .inr (.inr (.inr (.inr (fun i => some (q (120 + i)))))))), ((q 120), .inr (7, [.ref (q 124), .int 0, .int (-1)])), ((q 121), .inr (7, [.ref (q 125), .int 0, .int (-1)])), ((q 122), .inr (7, [.ref (q 126), .int 0, .int (-1)])), ((q 123), .inr (7, [.ref (q 127), .int 0, .int (-1)]))]) hx hb hml hown hts hKK hP hD hS hA (c_deny l D k (q 0) [.ref (q 1), .ref (q 2), .ref (q 3), .ref (q 4), .ref (q 5), .ref (q 6), .ref (q 7), .ref (q 8), .ref (q 9), .ref (q 10), .ref (q 11), .int 0, .int 0, .int 0, .long 0, .long 1] (Nat.le_of_ble_eq_true rfl) 1) ci_X11_deny qm_X11_107 ⟨Nat.le_of_ble_eq_true rfl, Nat.le_of_ble_eq_true rfl⟩ ⟨Nat.le_of_ble_eq_true rfl, Nat.le_of_ble_eq_true rfl⟩ [0] [1, 2, 3, 4, 5] rfl rfl rfl rfl rfl (by decide) 0 rfl rfl rfl hl.1 rfl (Nat.le_of_ble_eq_true rfl) dX11_pour_30 (fun u_105 H locs hφ hP hD hS => ?_)
              have hP : va_P D vwCl [((q 1), .inl (k 3, 4, .inr (.inr (.inr (.inr (fun i => some (q (120 + i)))))))), ((q 120), .inr (7, [.ref (q 124), .int 0, .int (-1)])), ((q 121), .inr (7, [.ref (q 125), .int 0, .int (-1)])), ((q 122), .inr (7, [.ref (q 126), .int 0, .int (-1)])), ((q 123), .inr (7, [.ref (q 127), .int 0, .int (-1)]))] H := hP
              have hD : va_D A [((q 1), .inl (k 3, 4, .inr (.inr (.inr (.inr (fun i => some (q (120 + i)))))))), ((q 120), .inr (7, [.ref (q 124), .int 0, .int (-1)])), ((q 121), .inr (7, [.ref (q 125), .int 0, .int (-1)])), ((q 122), .inr (7, [.ref (q 126), .int 0, .int (-1)])), ((q 123), .inr (7, [.ref (q 127), .int 0, .int (-1)]))] := hD
              refine W.eq (g2 := F0 m 33 ls [.int 0]) rfl ?_
              exact EWz hx hb hr hlocks hS () rfl rfl trivial nil_P nil_D dX11_pour_33
            ·
              refine lv_iload hx hb dX11_pour_23 (lv_at hl 5 rfl) ?_
              refine lv_if_ge (tgt := 34) hx hb dX11_pour_25 (by decide) (fun c_106 => ?_) (fun c_106 => ?_)
              ·
                refine lv_aload_n hx hb dX11_pour_34 rfl (lv_at hl 0 rfl) ?_
                refine va_get (D := D) (ci := 11) (v := .ref (q 1)) (C := RX11) (T := TX11) (N := 16) hx hb hts iX11 hown hK hP 0 rfl rfl 0 (by decide) (hts _ qf_X11_11) (fun _ h => h) rfl dX11_pour_35 ?_
                refine lv_iload_n hx hb dX11_pour_38 rfl (lv_at hl 1 rfl) ?_
                refine va_aldq hx hb hK hP 1 3 rfl rfl (xin 3 4 rfl (by decide) (by decide)) dX11_pour_39 ?_
                refine W.eq (g2 := F0 m 40 ls [.ref (q 123)]) rfl ?_
                refine lv_astore (lv' := [(6, .ref (q 123)), (0, .ref (q 0)), (1, .int 3), (2, .int b), (3, .int 1), (4, .int d1), (5, .int e1)]) hx hb dX11_pour_40 hl (by decide) rfl (fun ls hl => ?_)
                refine lv_aload_n hx hb dX11_pour_42 rfl (lv_at hl 1 rfl) ?_
                refine va_get (D := D) (ci := 11) (v := .ref (q 1)) (C := RX11) (T := TX11) (N := 16) hx hb hts iX11 hown hK hP 0 rfl rfl 0 (by decide) (hts _ qf_X11_11) (fun _ h => h) rfl dX11_pour_43 ?_
                refine lv_iload_n hx hb dX11_pour_46 rfl (lv_at hl 4 rfl) ?_
                refine va_aldq hx hb hK hP 1 3 rfl rfl (xin 1 4 rfl (by decide) (by decide)) dX11_pour_47 ?_
                refine W.eq (g2 := F0 m 48 ls [.ref (q 121)]) rfl ?_
                refine lv_astore (lv' := [(7, .ref (q 121)), (6, .ref (q 123)), (0, .ref (q 0)), (1, .int 3), (2, .int b), (3, .int 1), (4, .int d1), (5, .int e1)]) hx hb dX11_pour_48 hl (by decide) rfl (fun ls hl => ?_)
                refine lv_aload hx hb dX11_pour_50 (lv_at hl 1 rfl) ?_
                refine CRV (As := []) (rest := []) hx hb hml hown hts hKK (hP.sub (ws' := [((q 123), .inr (7, [.ref (q 127), .int 0, .int (-1)]))]) [5] rfl) (c_isMissing l D k (q 123) [.ref (q 127), .int 0, .int (-1)] rfl) ci_X7_isMissing qm_X11_134 ⟨Nat.le_of_ble_eq_true rfl, Nat.le_of_ble_eq_true rfl⟩ ⟨Nat.le_of_ble_eq_true rfl, Nat.le_of_ble_eq_true rfl⟩ 0 rfl rfl rfl hl.1 rfl (Nat.le_of_ble_eq_true rfl) dX11_pour_52 ?_
                refine lv_if_ne (tgt := 66) hx hb dX11_pour_55 (by decide) (fun _ => ?_) (fun c => absurd c (by decide))
                refine lv_aload_n hx hb dX11_pour_66 rfl (lv_at hl 2 rfl) ?_
                refine lv_iconst (v := 2) hx hb dX11_pour_67 (by decide) ?_
                refine CWV (As := [.int 2]) (rest := []) (wc := [((q 0), .inr (11, [.ref (q 1), .ref (q 2), .ref (q 3), .ref (q 4), .ref (q 5), .ref (q 6), .ref (q 7), .ref (q 8), .ref (q 9), .ref (q 10), .ref (q 11), .int 0, .int 0, .int 0, .long 0, .long 1]))]) (wr := [((q 1), .inl (k 3, 4, .inr (.inr (.inr (.inr (fun i => some (q (120 + i)))))))), ((q 120), .inr (7, [.ref (q 124), .int 0, .int (-1)])), ((q 121), .inr (7, [.ref (q 125), .int 0, .int (-1)])), ((q 122), .inr (7, [.ref (q 126), .int 0, .int (-1)])), ((q 123), .inr (7, [.ref (q 127), .int 0, .int (-1)]))]) hx hb hml hown hts hKK hP hD hS hA (c_deny l D k (q 0) [.ref (q 1), .ref (q 2), .ref (q 3), .ref (q 4), .ref (q 5), .ref (q 6), .ref (q 7), .ref (q 8), .ref (q 9), .ref (q 10), .ref (q 11), .int 0, .int 0, .int 0, .long 0, .long 1] (Nat.le_of_ble_eq_true rfl) 2) ci_X11_deny qm_X11_107 ⟨Nat.le_of_ble_eq_true rfl, Nat.le_of_ble_eq_true rfl⟩ ⟨Nat.le_of_ble_eq_true rfl, Nat.le_of_ble_eq_true rfl⟩ [0] [1, 2, 3, 4, 5] rfl rfl rfl rfl rfl (by decide) 0 rfl rfl rfl hl.1 rfl (Nat.le_of_ble_eq_true rfl) dX11_pour_68 (fun u_107 H locs hφ hP hD hS => ?_)
                have hP : va_P D vwCl [((q 1), .inl (k 3, 4, .inr (.inr (.inr (.inr (fun i => some (q (120 + i)))))))), ((q 120), .inr (7, [.ref (q 124), .int 0, .int (-1)])), ((q 121), .inr (7, [.ref (q 125), .int 0, .int (-1)])), ((q 122), .inr (7, [.ref (q 126), .int 0, .int (-1)])), ((q 123), .inr (7, [.ref (q 127), .int 0, .int (-1)]))] H := hP
                have hD : va_D A [((q 1), .inl (k 3, 4, .inr (.inr (.inr (.inr (fun i => some (q (120 + i)))))))), ((q 120), .inr (7, [.ref (q 124), .int 0, .int (-1)])), ((q 121), .inr (7, [.ref (q 125), .int 0, .int (-1)])), ((q 122), .inr (7, [.ref (q 126), .int 0, .int (-1)])), ((q 123), .inr (7, [.ref (q 127), .int 0, .int (-1)]))] := hD
                refine W.eq (g2 := F0 m 71 ls [.int 0]) rfl ?_
                exact EWz hx hb hr hlocks hS () rfl rfl trivial nil_P nil_D dX11_pour_71
              ·
                refine lv_aload_n hx hb dX11_pour_28 rfl (lv_at hl 0 rfl) ?_
                refine lv_iconst (v := 1) hx hb dX11_pour_29 (by decide) ?_
                refine CWV (As := [.int 1]) (rest := []) (wc := [((q 0), .inr (11, [.ref (q 1), .ref (q 2), .ref (q 3), .ref (q 4), .ref (q 5), .ref (q 6), .ref (q 7), .ref (q 8), .ref (q 9), .ref (q 10), .ref (q 11), .int 0, .int 0, .int 0, .long 0, .long 1]))]) (wr := [((q 1), .inl (k 3, 4, .inr (.inr (.inr (.inr (fun i => some (q (120 + i)))))))), ((q 120), .inr (7, [.ref (q 124), .int 0, .int (-1)])), ((q 121), .inr (7, [.ref (q 125), .int 0, .int (-1)])), ((q 122), .inr (7, [.ref (q 126), .int 0, .int (-1)])), ((q 123), .inr (7, [.ref (q 127), .int 0, .int (-1)]))]) hx hb hml hown hts hKK hP hD hS hA (c_deny l D k (q 0) [.ref (q 1), .ref (q 2), .ref (q 3), .ref (q 4), .ref (q 5), .ref (q 6), .ref (q 7), .ref (q 8), .ref (q 9), .ref (q 10), .ref (q 11), .int 0, .int 0, .int 0, .long 0, .long 1] (Nat.le_of_ble_eq_true rfl) 1) ci_X11_deny qm_X11_107 ⟨Nat.le_of_ble_eq_true rfl, Nat.le_of_ble_eq_true rfl⟩ ⟨Nat.le_of_ble_eq_true rfl, Nat.le_of_ble_eq_true rfl⟩ [0] [1, 2, 3, 4, 5] rfl rfl rfl rfl rfl (by decide) 0 rfl rfl rfl hl.1 rfl (Nat.le_of_ble_eq_true rfl) dX11_pour_30 (fun u_108 H locs hφ hP hD hS => ?_)
                have hP : va_P D vwCl [((q 1), .inl (k 3, 4, .inr (.inr (.inr (.inr (fun i => some (q (120 + i)))))))), ((q 120), .inr (7, [.ref (q 124), .int 0, .int (-1)])), ((q 121), .inr (7, [.ref (q 125), .int 0, .int (-1)])), ((q 122), .inr (7, [.ref (q 126), .int 0, .int (-1)])), ((q 123), .inr (7, [.ref (q 127), .int 0, .int (-1)]))] H := hP
                have hD : va_D A [((q 1), .inl (k 3, 4, .inr (.inr (.inr (.inr (fun i => some (q (120 + i)))))))), ((q 120), .inr (7, [.ref (q 124), .int 0, .int (-1)])), ((q 121), .inr (7, [.ref (q 125), .int 0, .int (-1)])), ((q 122), .inr (7, [.ref (q 126), .int 0, .int (-1)])), ((q 123), .inr (7, [.ref (q 127), .int 0, .int (-1)]))] := hD
                refine W.eq (g2 := F0 m 33 ls [.int 0]) rfl ?_
                exact EWz hx hb hr hlocks hS () rfl rfl trivial nil_P nil_D dX11_pour_33
        ·
          refine lv_iload_n hx hb dX11_pour_14 rfl (lv_at hl 2 rfl) ?_
          refine lv_if_lt (tgt := 28) hx hb dX11_pour_15 (by decide) (fun c_109 => ?_) (fun c_109 => ?_)
          ·
            refine lv_aload_n hx hb dX11_pour_28 rfl (lv_at hl 0 rfl) ?_
            refine lv_iconst (v := 1) hx hb dX11_pour_29 (by decide) ?_
            refine CWV (As := [.int 1]) (rest := []) (wc := [((q 0), .inr (11, [.ref (q 1), .ref (q 2), .ref (q 3), .ref (q 4), .ref (q 5), .ref (q 6), .ref (q 7), .ref (q 8), .ref (q 9), .ref (q 10), .ref (q 11), .int 0, .int 0, .int 0, .long 0, .long 1]))]) (wr := [((q 1), .inl (k 3, 4, .inr (.inr (.inr (.inr (fun i => some (q (120 + i)))))))), ((q 120), .inr (7, [.ref (q 124), .int 0, .int (-1)])), ((q 121), .inr (7, [.ref (q 125), .int 0, .int (-1)])), ((q 122), .inr (7, [.ref (q 126), .int 0, .int (-1)])), ((q 123), .inr (7, [.ref (q 127), .int 0, .int (-1)]))]) hx hb hml hown hts hKK hP hD hS hA (c_deny l D k (q 0) [.ref (q 1), .ref (q 2), .ref (q 3), .ref (q 4), .ref (q 5), .ref (q 6), .ref (q 7), .ref (q 8), .ref (q 9), .ref (q 10), .ref (q 11), .int 0, .int 0, .int 0, .long 0, .long 1] (Nat.le_of_ble_eq_true rfl) 1) ci_X11_deny qm_X11_107 ⟨Nat.le_of_ble_eq_true rfl, Nat.le_of_ble_eq_true rfl⟩ ⟨Nat.le_of_ble_eq_true rfl, Nat.le_of_ble_eq_true rfl⟩ [0] [1, 2, 3, 4, 5] rfl rfl rfl rfl rfl (by decide) 0 rfl rfl rfl hl.1 rfl (Nat.le_of_ble_eq_true rfl) dX11_pour_30 (fun u_110 H locs hφ hP hD hS => ?_)
            have hP : va_P D vwCl [((q 1), .inl (k 3, 4, .inr (.inr (.inr (.inr (fun i => some (q (120 + i)))))))), ((q 120), .inr (7, [.ref (q 124), .int 0, .int (-1)])), ((q 121), .inr (7, [.ref (q 125), .int 0, .int (-1)])), ((q 122), .inr (7, [.ref (q 126), .int 0, .int (-1)])), ((q 123), .inr (7, [.ref (q 127), .int 0, .int (-1)]))] H := hP
            have hD : va_D A [((q 1), .inl (k 3, 4, .inr (.inr (.inr (.inr (fun i => some (q (120 + i)))))))), ((q 120), .inr (7, [.ref (q 124), .int 0, .int (-1)])), ((q 121), .inr (7, [.ref (q 125), .int 0, .int (-1)])), ((q 122), .inr (7, [.ref (q 126), .int 0, .int (-1)])), ((q 123), .inr (7, [.ref (q 127), .int 0, .int (-1)]))] := hD
            refine W.eq (g2 := F0 m 33 ls [.int 0]) rfl ?_
            exact EWz hx hb hr hlocks hS () rfl rfl trivial nil_P nil_D dX11_pour_33
          ·
            refine lv_iload hx hb dX11_pour_18 (lv_at hl 4 rfl) ?_
            refine lv_if_lt (tgt := 28) hx hb dX11_pour_20 (by decide) (fun c_111 => ?_) (fun c_111 => ?_)
            ·
              refine lv_aload_n hx hb dX11_pour_28 rfl (lv_at hl 0 rfl) ?_
              refine lv_iconst (v := 1) hx hb dX11_pour_29 (by decide) ?_
              refine CWV (As := [.int 1]) (rest := []) (wc := [((q 0), .inr (11, [.ref (q 1), .ref (q 2), .ref (q 3), .ref (q 4), .ref (q 5), .ref (q 6), .ref (q 7), .ref (q 8), .ref (q 9), .ref (q 10), .ref (q 11), .int 0, .int 0, .int 0, .long 0, .long 1]))]) (wr := [((q 1), .inl (k 3, 4, .inr (.inr (.inr (.inr (fun i => some (q (120 + i)))))))), ((q 120), .inr (7, [.ref (q 124), .int 0, .int (-1)])), ((q 121), .inr (7, [.ref (q 125), .int 0, .int (-1)])), ((q 122), .inr (7, [.ref (q 126), .int 0, .int (-1)])), ((q 123), .inr (7, [.ref (q 127), .int 0, .int (-1)]))]) hx hb hml hown hts hKK hP hD hS hA (c_deny l D k (q 0) [.ref (q 1), .ref (q 2), .ref (q 3), .ref (q 4), .ref (q 5), .ref (q 6), .ref (q 7), .ref (q 8), .ref (q 9), .ref (q 10), .ref (q 11), .int 0, .int 0, .int 0, .long 0, .long 1] (Nat.le_of_ble_eq_true rfl) 1) ci_X11_deny qm_X11_107 ⟨Nat.le_of_ble_eq_true rfl, Nat.le_of_ble_eq_true rfl⟩ ⟨Nat.le_of_ble_eq_true rfl, Nat.le_of_ble_eq_true rfl⟩ [0] [1, 2, 3, 4, 5] rfl rfl rfl rfl rfl (by decide) 0 rfl rfl rfl hl.1 rfl (Nat.le_of_ble_eq_true rfl) dX11_pour_30 (fun u_112 H locs hφ hP hD hS => ?_)
              have hP : va_P D vwCl [((q 1), .inl (k 3, 4, .inr (.inr (.inr (.inr (fun i => some (q (120 + i)))))))), ((q 120), .inr (7, [.ref (q 124), .int 0, .int (-1)])), ((q 121), .inr (7, [.ref (q 125), .int 0, .int (-1)])), ((q 122), .inr (7, [.ref (q 126), .int 0, .int (-1)])), ((q 123), .inr (7, [.ref (q 127), .int 0, .int (-1)]))] H := hP
              have hD : va_D A [((q 1), .inl (k 3, 4, .inr (.inr (.inr (.inr (fun i => some (q (120 + i)))))))), ((q 120), .inr (7, [.ref (q 124), .int 0, .int (-1)])), ((q 121), .inr (7, [.ref (q 125), .int 0, .int (-1)])), ((q 122), .inr (7, [.ref (q 126), .int 0, .int (-1)])), ((q 123), .inr (7, [.ref (q 127), .int 0, .int (-1)]))] := hD
              refine W.eq (g2 := F0 m 33 ls [.int 0]) rfl ?_
              exact EWz hx hb hr hlocks hS () rfl rfl trivial nil_P nil_D dX11_pour_33
            ·
              refine lv_iload hx hb dX11_pour_23 (lv_at hl 5 rfl) ?_
              refine lv_if_ge (tgt := 34) hx hb dX11_pour_25 (by decide) (fun c_113 => ?_) (fun c_113 => ?_)
              ·
                refine lv_aload_n hx hb dX11_pour_34 rfl (lv_at hl 0 rfl) ?_
                refine va_get (D := D) (ci := 11) (v := .ref (q 1)) (C := RX11) (T := TX11) (N := 16) hx hb hts iX11 hown hK hP 0 rfl rfl 0 (by decide) (hts _ qf_X11_11) (fun _ h => h) rfl dX11_pour_35 ?_
                refine lv_iload_n hx hb dX11_pour_38 rfl (lv_at hl 1 rfl) ?_
                refine va_aldq hx hb hK hP 1 3 rfl rfl (xin 3 4 rfl (by decide) (by decide)) dX11_pour_39 ?_
                refine W.eq (g2 := F0 m 40 ls [.ref (q 123)]) rfl ?_
                refine lv_astore (lv' := [(6, .ref (q 123)), (0, .ref (q 0)), (1, .int 3), (2, .int b), (3, .int 2), (4, .int d1), (5, .int e1)]) hx hb dX11_pour_40 hl (by decide) rfl (fun ls hl => ?_)
                refine lv_aload_n hx hb dX11_pour_42 rfl (lv_at hl 1 rfl) ?_
                refine va_get (D := D) (ci := 11) (v := .ref (q 1)) (C := RX11) (T := TX11) (N := 16) hx hb hts iX11 hown hK hP 0 rfl rfl 0 (by decide) (hts _ qf_X11_11) (fun _ h => h) rfl dX11_pour_43 ?_
                refine lv_iload_n hx hb dX11_pour_46 rfl (lv_at hl 4 rfl) ?_
                refine va_aldq hx hb hK hP 1 3 rfl rfl (xin 2 4 rfl (by decide) (by decide)) dX11_pour_47 ?_
                refine W.eq (g2 := F0 m 48 ls [.ref (q 122)]) rfl ?_
                refine lv_astore (lv' := [(7, .ref (q 122)), (6, .ref (q 123)), (0, .ref (q 0)), (1, .int 3), (2, .int b), (3, .int 2), (4, .int d1), (5, .int e1)]) hx hb dX11_pour_48 hl (by decide) rfl (fun ls hl => ?_)
                refine lv_aload hx hb dX11_pour_50 (lv_at hl 1 rfl) ?_
                refine CRV (As := []) (rest := []) hx hb hml hown hts hKK (hP.sub (ws' := [((q 123), .inr (7, [.ref (q 127), .int 0, .int (-1)]))]) [5] rfl) (c_isMissing l D k (q 123) [.ref (q 127), .int 0, .int (-1)] rfl) ci_X7_isMissing qm_X11_134 ⟨Nat.le_of_ble_eq_true rfl, Nat.le_of_ble_eq_true rfl⟩ ⟨Nat.le_of_ble_eq_true rfl, Nat.le_of_ble_eq_true rfl⟩ 0 rfl rfl rfl hl.1 rfl (Nat.le_of_ble_eq_true rfl) dX11_pour_52 ?_
                refine lv_if_ne (tgt := 66) hx hb dX11_pour_55 (by decide) (fun _ => ?_) (fun c => absurd c (by decide))
                refine lv_aload_n hx hb dX11_pour_66 rfl (lv_at hl 2 rfl) ?_
                refine lv_iconst (v := 2) hx hb dX11_pour_67 (by decide) ?_
                refine CWV (As := [.int 2]) (rest := []) (wc := [((q 0), .inr (11, [.ref (q 1), .ref (q 2), .ref (q 3), .ref (q 4), .ref (q 5), .ref (q 6), .ref (q 7), .ref (q 8), .ref (q 9), .ref (q 10), .ref (q 11), .int 0, .int 0, .int 0, .long 0, .long 1]))]) (wr := [((q 1), .inl (k 3, 4, .inr (.inr (.inr (.inr (fun i => some (q (120 + i)))))))), ((q 120), .inr (7, [.ref (q 124), .int 0, .int (-1)])), ((q 121), .inr (7, [.ref (q 125), .int 0, .int (-1)])), ((q 122), .inr (7, [.ref (q 126), .int 0, .int (-1)])), ((q 123), .inr (7, [.ref (q 127), .int 0, .int (-1)]))]) hx hb hml hown hts hKK hP hD hS hA (c_deny l D k (q 0) [.ref (q 1), .ref (q 2), .ref (q 3), .ref (q 4), .ref (q 5), .ref (q 6), .ref (q 7), .ref (q 8), .ref (q 9), .ref (q 10), .ref (q 11), .int 0, .int 0, .int 0, .long 0, .long 1] (Nat.le_of_ble_eq_true rfl) 2) ci_X11_deny qm_X11_107 ⟨Nat.le_of_ble_eq_true rfl, Nat.le_of_ble_eq_true rfl⟩ ⟨Nat.le_of_ble_eq_true rfl, Nat.le_of_ble_eq_true rfl⟩ [0] [1, 2, 3, 4, 5] rfl rfl rfl rfl rfl (by decide) 0 rfl rfl rfl hl.1 rfl (Nat.le_of_ble_eq_true rfl) dX11_pour_68 (fun u_114 H locs hφ hP hD hS => ?_)
                have hP : va_P D vwCl [((q 1), .inl (k 3, 4, .inr (.inr (.inr (.inr (fun i => some (q (120 + i)))))))), ((q 120), .inr (7, [.ref (q 124), .int 0, .int (-1)])), ((q 121), .inr (7, [.ref (q 125), .int 0, .int (-1)])), ((q 122), .inr (7, [.ref (q 126), .int 0, .int (-1)])), ((q 123), .inr (7, [.ref (q 127), .int 0, .int (-1)]))] H := hP
                have hD : va_D A [((q 1), .inl (k 3, 4, .inr (.inr (.inr (.inr (fun i => some (q (120 + i)))))))), ((q 120), .inr (7, [.ref (q 124), .int 0, .int (-1)])), ((q 121), .inr (7, [.ref (q 125), .int 0, .int (-1)])), ((q 122), .inr (7, [.ref (q 126), .int 0, .int (-1)])), ((q 123), .inr (7, [.ref (q 127), .int 0, .int (-1)]))] := hD
                refine W.eq (g2 := F0 m 71 ls [.int 0]) rfl ?_
                exact EWz hx hb hr hlocks hS () rfl rfl trivial nil_P nil_D dX11_pour_71
              ·
                refine lv_aload_n hx hb dX11_pour_28 rfl (lv_at hl 0 rfl) ?_
                refine lv_iconst (v := 1) hx hb dX11_pour_29 (by decide) ?_
                refine CWV (As := [.int 1]) (rest := []) (wc := [((q 0), .inr (11, [.ref (q 1), .ref (q 2), .ref (q 3), .ref (q 4), .ref (q 5), .ref (q 6), .ref (q 7), .ref (q 8), .ref (q 9), .ref (q 10), .ref (q 11), .int 0, .int 0, .int 0, .long 0, .long 1]))]) (wr := [((q 1), .inl (k 3, 4, .inr (.inr (.inr (.inr (fun i => some (q (120 + i)))))))), ((q 120), .inr (7, [.ref (q 124), .int 0, .int (-1)])), ((q 121), .inr (7, [.ref (q 125), .int 0, .int (-1)])), ((q 122), .inr (7, [.ref (q 126), .int 0, .int (-1)])), ((q 123), .inr (7, [.ref (q 127), .int 0, .int (-1)]))]) hx hb hml hown hts hKK hP hD hS hA (c_deny l D k (q 0) [.ref (q 1), .ref (q 2), .ref (q 3), .ref (q 4), .ref (q 5), .ref (q 6), .ref (q 7), .ref (q 8), .ref (q 9), .ref (q 10), .ref (q 11), .int 0, .int 0, .int 0, .long 0, .long 1] (Nat.le_of_ble_eq_true rfl) 1) ci_X11_deny qm_X11_107 ⟨Nat.le_of_ble_eq_true rfl, Nat.le_of_ble_eq_true rfl⟩ ⟨Nat.le_of_ble_eq_true rfl, Nat.le_of_ble_eq_true rfl⟩ [0] [1, 2, 3, 4, 5] rfl rfl rfl rfl rfl (by decide) 0 rfl rfl rfl hl.1 rfl (Nat.le_of_ble_eq_true rfl) dX11_pour_30 (fun u_115 H locs hφ hP hD hS => ?_)
                have hP : va_P D vwCl [((q 1), .inl (k 3, 4, .inr (.inr (.inr (.inr (fun i => some (q (120 + i)))))))), ((q 120), .inr (7, [.ref (q 124), .int 0, .int (-1)])), ((q 121), .inr (7, [.ref (q 125), .int 0, .int (-1)])), ((q 122), .inr (7, [.ref (q 126), .int 0, .int (-1)])), ((q 123), .inr (7, [.ref (q 127), .int 0, .int (-1)]))] H := hP
                have hD : va_D A [((q 1), .inl (k 3, 4, .inr (.inr (.inr (.inr (fun i => some (q (120 + i)))))))), ((q 120), .inr (7, [.ref (q 124), .int 0, .int (-1)])), ((q 121), .inr (7, [.ref (q 125), .int 0, .int (-1)])), ((q 122), .inr (7, [.ref (q 126), .int 0, .int (-1)])), ((q 123), .inr (7, [.ref (q 127), .int 0, .int (-1)]))] := hD
                refine W.eq (g2 := F0 m 33 ls [.int 0]) rfl ?_
                exact EWz hx hb hr hlocks hS () rfl rfl trivial nil_P nil_D dX11_pour_33
        ·
          refine lv_iload_n hx hb dX11_pour_14 rfl (lv_at hl 2 rfl) ?_
          refine lv_if_lt (tgt := 28) hx hb dX11_pour_15 (by decide) (fun c_116 => ?_) (fun c_116 => ?_)
          ·
            refine lv_aload_n hx hb dX11_pour_28 rfl (lv_at hl 0 rfl) ?_
            refine lv_iconst (v := 1) hx hb dX11_pour_29 (by decide) ?_
            refine CWV (As := [.int 1]) (rest := []) (wc := [((q 0), .inr (11, [.ref (q 1), .ref (q 2), .ref (q 3), .ref (q 4), .ref (q 5), .ref (q 6), .ref (q 7), .ref (q 8), .ref (q 9), .ref (q 10), .ref (q 11), .int 0, .int 0, .int 0, .long 0, .long 1]))]) (wr := [((q 1), .inl (k 3, 4, .inr (.inr (.inr (.inr (fun i => some (q (120 + i)))))))), ((q 120), .inr (7, [.ref (q 124), .int 0, .int (-1)])), ((q 121), .inr (7, [.ref (q 125), .int 0, .int (-1)])), ((q 122), .inr (7, [.ref (q 126), .int 0, .int (-1)])), ((q 123), .inr (7, [.ref (q 127), .int 0, .int (-1)]))]) hx hb hml hown hts hKK hP hD hS hA (c_deny l D k (q 0) [.ref (q 1), .ref (q 2), .ref (q 3), .ref (q 4), .ref (q 5), .ref (q 6), .ref (q 7), .ref (q 8), .ref (q 9), .ref (q 10), .ref (q 11), .int 0, .int 0, .int 0, .long 0, .long 1] (Nat.le_of_ble_eq_true rfl) 1) ci_X11_deny qm_X11_107 ⟨Nat.le_of_ble_eq_true rfl, Nat.le_of_ble_eq_true rfl⟩ ⟨Nat.le_of_ble_eq_true rfl, Nat.le_of_ble_eq_true rfl⟩ [0] [1, 2, 3, 4, 5] rfl rfl rfl rfl rfl (by decide) 0 rfl rfl rfl hl.1 rfl (Nat.le_of_ble_eq_true rfl) dX11_pour_30 (fun u_117 H locs hφ hP hD hS => ?_)
            have hP : va_P D vwCl [((q 1), .inl (k 3, 4, .inr (.inr (.inr (.inr (fun i => some (q (120 + i)))))))), ((q 120), .inr (7, [.ref (q 124), .int 0, .int (-1)])), ((q 121), .inr (7, [.ref (q 125), .int 0, .int (-1)])), ((q 122), .inr (7, [.ref (q 126), .int 0, .int (-1)])), ((q 123), .inr (7, [.ref (q 127), .int 0, .int (-1)]))] H := hP
            have hD : va_D A [((q 1), .inl (k 3, 4, .inr (.inr (.inr (.inr (fun i => some (q (120 + i)))))))), ((q 120), .inr (7, [.ref (q 124), .int 0, .int (-1)])), ((q 121), .inr (7, [.ref (q 125), .int 0, .int (-1)])), ((q 122), .inr (7, [.ref (q 126), .int 0, .int (-1)])), ((q 123), .inr (7, [.ref (q 127), .int 0, .int (-1)]))] := hD
            refine W.eq (g2 := F0 m 33 ls [.int 0]) rfl ?_
            exact EWz hx hb hr hlocks hS () rfl rfl trivial nil_P nil_D dX11_pour_33
          ·
            refine lv_iload hx hb dX11_pour_18 (lv_at hl 4 rfl) ?_
            refine lv_if_lt (tgt := 28) hx hb dX11_pour_20 (by decide) (fun c_118 => ?_) (fun c_118 => ?_)
            ·
              refine lv_aload_n hx hb dX11_pour_28 rfl (lv_at hl 0 rfl) ?_
              refine lv_iconst (v := 1) hx hb dX11_pour_29 (by decide) ?_
              refine CWV (As := [.int 1]) (rest := []) (wc := [((q 0), .inr (11, [.ref (q 1), .ref (q 2), .ref (q 3), .ref (q 4), .ref (q 5), .ref (q 6), .ref (q 7), .ref (q 8), .ref (q 9), .ref (q 10), .ref (q 11), .int 0, .int 0, .int 0, .long 0, .long 1]))]) (wr := [((q 1), .inl (k 3, 4, .inr (.inr (.inr (.inr (fun i => some (q (120 + i)))))))), ((q 120), .inr (7, [.ref (q 124), .int 0, .int (-1)])), ((q 121), .inr (7, [.ref (q 125), .int 0, .int (-1)])), ((q 122), .inr (7, [.ref (q 126), .int 0, .int (-1)])), ((q 123), .inr (7, [.ref (q 127), .int 0, .int (-1)]))]) hx hb hml hown hts hKK hP hD hS hA (c_deny l D k (q 0) [.ref (q 1), .ref (q 2), .ref (q 3), .ref (q 4), .ref (q 5), .ref (q 6), .ref (q 7), .ref (q 8), .ref (q 9), .ref (q 10), .ref (q 11), .int 0, .int 0, .int 0, .long 0, .long 1] (Nat.le_of_ble_eq_true rfl) 1) ci_X11_deny qm_X11_107 ⟨Nat.le_of_ble_eq_true rfl, Nat.le_of_ble_eq_true rfl⟩ ⟨Nat.le_of_ble_eq_true rfl, Nat.le_of_ble_eq_true rfl⟩ [0] [1, 2, 3, 4, 5] rfl rfl rfl rfl rfl (by decide) 0 rfl rfl rfl hl.1 rfl (Nat.le_of_ble_eq_true rfl) dX11_pour_30 (fun u_119 H locs hφ hP hD hS => ?_)
              have hP : va_P D vwCl [((q 1), .inl (k 3, 4, .inr (.inr (.inr (.inr (fun i => some (q (120 + i)))))))), ((q 120), .inr (7, [.ref (q 124), .int 0, .int (-1)])), ((q 121), .inr (7, [.ref (q 125), .int 0, .int (-1)])), ((q 122), .inr (7, [.ref (q 126), .int 0, .int (-1)])), ((q 123), .inr (7, [.ref (q 127), .int 0, .int (-1)]))] H := hP
              have hD : va_D A [((q 1), .inl (k 3, 4, .inr (.inr (.inr (.inr (fun i => some (q (120 + i)))))))), ((q 120), .inr (7, [.ref (q 124), .int 0, .int (-1)])), ((q 121), .inr (7, [.ref (q 125), .int 0, .int (-1)])), ((q 122), .inr (7, [.ref (q 126), .int 0, .int (-1)])), ((q 123), .inr (7, [.ref (q 127), .int 0, .int (-1)]))] := hD
              refine W.eq (g2 := F0 m 33 ls [.int 0]) rfl ?_
              exact EWz hx hb hr hlocks hS () rfl rfl trivial nil_P nil_D dX11_pour_33
            ·
              refine lv_iload hx hb dX11_pour_23 (lv_at hl 5 rfl) ?_
              refine lv_if_ge (tgt := 34) hx hb dX11_pour_25 (by decide) (fun c_120 => ?_) (fun c_120 => ?_)
              ·
                refine lv_aload_n hx hb dX11_pour_34 rfl (lv_at hl 0 rfl) ?_
                refine va_get (D := D) (ci := 11) (v := .ref (q 1)) (C := RX11) (T := TX11) (N := 16) hx hb hts iX11 hown hK hP 0 rfl rfl 0 (by decide) (hts _ qf_X11_11) (fun _ h => h) rfl dX11_pour_35 ?_
                refine lv_iload_n hx hb dX11_pour_38 rfl (lv_at hl 1 rfl) ?_
                refine va_aldq hx hb hK hP 1 3 rfl rfl (xin 3 4 rfl (by decide) (by decide)) dX11_pour_39 ?_
                refine W.eq (g2 := F0 m 40 ls [.ref (q 123)]) rfl ?_
                refine lv_astore (lv' := [(6, .ref (q 123)), (0, .ref (q 0)), (1, .int 3), (2, .int b), (3, .int 3), (4, .int d1), (5, .int e1)]) hx hb dX11_pour_40 hl (by decide) rfl (fun ls hl => ?_)
                refine lv_aload_n hx hb dX11_pour_42 rfl (lv_at hl 1 rfl) ?_
                refine va_get (D := D) (ci := 11) (v := .ref (q 1)) (C := RX11) (T := TX11) (N := 16) hx hb hts iX11 hown hK hP 0 rfl rfl 0 (by decide) (hts _ qf_X11_11) (fun _ h => h) rfl dX11_pour_43 ?_
                refine lv_iload_n hx hb dX11_pour_46 rfl (lv_at hl 4 rfl) ?_
                refine va_aldq hx hb hK hP 1 3 rfl rfl (xin 3 4 rfl (by decide) (by decide)) dX11_pour_47 ?_
                refine W.eq (g2 := F0 m 48 ls [.ref (q 123)]) rfl ?_
                refine lv_astore (lv' := [(7, .ref (q 123)), (6, .ref (q 123)), (0, .ref (q 0)), (1, .int 3), (2, .int b), (3, .int 3), (4, .int d1), (5, .int e1)]) hx hb dX11_pour_48 hl (by decide) rfl (fun ls hl => ?_)
                refine lv_aload hx hb dX11_pour_50 (lv_at hl 1 rfl) ?_
                refine CRV (As := []) (rest := []) hx hb hml hown hts hKK (hP.sub (ws' := [((q 123), .inr (7, [.ref (q 127), .int 0, .int (-1)]))]) [5] rfl) (c_isMissing l D k (q 123) [.ref (q 127), .int 0, .int (-1)] rfl) ci_X7_isMissing qm_X11_134 ⟨Nat.le_of_ble_eq_true rfl, Nat.le_of_ble_eq_true rfl⟩ ⟨Nat.le_of_ble_eq_true rfl, Nat.le_of_ble_eq_true rfl⟩ 0 rfl rfl rfl hl.1 rfl (Nat.le_of_ble_eq_true rfl) dX11_pour_52 ?_
                refine lv_if_ne (tgt := 66) hx hb dX11_pour_55 (by decide) (fun _ => ?_) (fun c => absurd c (by decide))
                refine lv_aload_n hx hb dX11_pour_66 rfl (lv_at hl 2 rfl) ?_
                refine lv_iconst (v := 2) hx hb dX11_pour_67 (by decide) ?_
                refine CWV (As := [.int 2]) (rest := []) (wc := [((q 0), .inr (11, [.ref (q 1), .ref (q 2), .ref (q 3), .ref (q 4), .ref (q 5), .ref (q 6), .ref (q 7), .ref (q 8), .ref (q 9), .ref (q 10), .ref (q 11), .int 0, .int 0, .int 0, .long 0, .long 1]))]) (wr := [((q 1), .inl (k 3, 4, .inr (.inr (.inr (.inr (fun i => some (q (120 + i)))))))), ((q 120), .inr (7, [.ref (q 124), .int 0, .int (-1)])), ((q 121), .inr (7, [.ref (q 125), .int 0, .int (-1)])), ((q 122), .inr (7, [.ref (q 126), .int 0, .int (-1)])), ((q 123), .inr (7, [.ref (q 127), .int 0, .int (-1)]))]) hx hb hml hown hts hKK hP hD hS hA (c_deny l D k (q 0) [.ref (q 1), .ref (q 2), .ref (q 3), .ref (q 4), .ref (q 5), .ref (q 6), .ref (q 7), .ref (q 8), .ref (q 9), .ref (q 10), .ref (q 11), .int 0, .int 0, .int 0, .long 0, .long 1] (Nat.le_of_ble_eq_true rfl) 2) ci_X11_deny qm_X11_107 ⟨Nat.le_of_ble_eq_true rfl, Nat.le_of_ble_eq_true rfl⟩ ⟨Nat.le_of_ble_eq_true rfl, Nat.le_of_ble_eq_true rfl⟩ [0] [1, 2, 3, 4, 5] rfl rfl rfl rfl rfl (by decide) 0 rfl rfl rfl hl.1 rfl (Nat.le_of_ble_eq_true rfl) dX11_pour_68 (fun u_121 H locs hφ hP hD hS => ?_)
                have hP : va_P D vwCl [((q 1), .inl (k 3, 4, .inr (.inr (.inr (.inr (fun i => some (q (120 + i)))))))), ((q 120), .inr (7, [.ref (q 124), .int 0, .int (-1)])), ((q 121), .inr (7, [.ref (q 125), .int 0, .int (-1)])), ((q 122), .inr (7, [.ref (q 126), .int 0, .int (-1)])), ((q 123), .inr (7, [.ref (q 127), .int 0, .int (-1)]))] H := hP
                have hD : va_D A [((q 1), .inl (k 3, 4, .inr (.inr (.inr (.inr (fun i => some (q (120 + i)))))))), ((q 120), .inr (7, [.ref (q 124), .int 0, .int (-1)])), ((q 121), .inr (7, [.ref (q 125), .int 0, .int (-1)])), ((q 122), .inr (7, [.ref (q 126), .int 0, .int (-1)])), ((q 123), .inr (7, [.ref (q 127), .int 0, .int (-1)]))] := hD
                refine W.eq (g2 := F0 m 71 ls [.int 0]) rfl ?_
                exact EWz hx hb hr hlocks hS () rfl rfl trivial nil_P nil_D dX11_pour_71
              ·
                refine lv_aload_n hx hb dX11_pour_28 rfl (lv_at hl 0 rfl) ?_
                refine lv_iconst (v := 1) hx hb dX11_pour_29 (by decide) ?_
                refine CWV (As := [.int 1]) (rest := []) (wc := [((q 0), .inr (11, [.ref (q 1), .ref (q 2), .ref (q 3), .ref (q 4), .ref (q 5), .ref (q 6), .ref (q 7), .ref (q 8), .ref (q 9), .ref (q 10), .ref (q 11), .int 0, .int 0, .int 0, .long 0, .long 1]))]) (wr := [((q 1), .inl (k 3, 4, .inr (.inr (.inr (.inr (fun i => some (q (120 + i)))))))), ((q 120), .inr (7, [.ref (q 124), .int 0, .int (-1)])), ((q 121), .inr (7, [.ref (q 125), .int 0, .int (-1)])), ((q 122), .inr (7, [.ref (q 126), .int 0, .int (-1)])), ((q 123), .inr (7, [.ref (q 127), .int 0, .int (-1)]))]) hx hb hml hown hts hKK hP hD hS hA (c_deny l D k (q 0) [.ref (q 1), .ref (q 2), .ref (q 3), .ref (q 4), .ref (q 5), .ref (q 6), .ref (q 7), .ref (q 8), .ref (q 9), .ref (q 10), .ref (q 11), .int 0, .int 0, .int 0, .long 0, .long 1] (Nat.le_of_ble_eq_true rfl) 1) ci_X11_deny qm_X11_107 ⟨Nat.le_of_ble_eq_true rfl, Nat.le_of_ble_eq_true rfl⟩ ⟨Nat.le_of_ble_eq_true rfl, Nat.le_of_ble_eq_true rfl⟩ [0] [1, 2, 3, 4, 5] rfl rfl rfl rfl rfl (by decide) 0 rfl rfl rfl hl.1 rfl (Nat.le_of_ble_eq_true rfl) dX11_pour_30 (fun u_122 H locs hφ hP hD hS => ?_)
                have hP : va_P D vwCl [((q 1), .inl (k 3, 4, .inr (.inr (.inr (.inr (fun i => some (q (120 + i)))))))), ((q 120), .inr (7, [.ref (q 124), .int 0, .int (-1)])), ((q 121), .inr (7, [.ref (q 125), .int 0, .int (-1)])), ((q 122), .inr (7, [.ref (q 126), .int 0, .int (-1)])), ((q 123), .inr (7, [.ref (q 127), .int 0, .int (-1)]))] H := hP
                have hD : va_D A [((q 1), .inl (k 3, 4, .inr (.inr (.inr (.inr (fun i => some (q (120 + i)))))))), ((q 120), .inr (7, [.ref (q 124), .int 0, .int (-1)])), ((q 121), .inr (7, [.ref (q 125), .int 0, .int (-1)])), ((q 122), .inr (7, [.ref (q 126), .int 0, .int (-1)])), ((q 123), .inr (7, [.ref (q 127), .int 0, .int (-1)]))] := hD
                refine W.eq (g2 := F0 m 33 ls [.int 0]) rfl ?_
                exact EWz hx hb hr hlocks hS () rfl rfl trivial nil_P nil_D dX11_pour_33
set_option maxHeartbeats 4000000 in
set_option maxRecDepth 100000 in
theorem c_tape0 (l : Launch) (D : va_G) (k : Nat → ClassId) (q : Nat → Nat) (f : Nat → Int32) (x : Int32) : WD (σ := (Nat → Int32)) l yX4_putOnTape cX4_putOnTape 3 none 0 0 0 D k [.ref (q 5), .int x] [((q 5), .inr (4, [.ref (q 130), .ref (q 131), .int 0, .int 0, .int 0, .int 0, .int 0, .int 0, .int 0, .long 0, .int (-1), .int (-1)])), ((q 130), .inl (k 0, 900, .inl f))] (fun _ => none) (fun _ => True) (fun g => [((q 5), .inr (4, [.ref (q 130), .ref (q 131), .int 4, .int 0, .int 0, .int 0, .int 0, .int 0, .int 0, .long 0, .int (-1), .int (-1)])), ((q 130), .inl (k 0, 900, .inl g))]) := by
  refine MW (by decide) (Nat.le_of_ble_eq_true rfl) (fun p e s m below meth c ls A hx hb hml hr hlocks hin hts hown hKK hP hD hS hA hl => ?_)
  have hK := hKK.1
  have hl : lv_has ls 3 [(0, .ref (q 5)), (1, .int x)] := hl
  refine lv_bipush (v := 24) hx hb dX4_putOnTape_0 (by decide) ?_
  refine lv_istore_n (lv' := [(2, .int 24), (0, .ref (q 5)), (1, .int x)]) hx hb dX4_putOnTape_2 rfl hl (by decide) rfl (fun ls hl => ?_)
  refine lv_iload_n hx hb dX4_putOnTape_3 rfl (lv_at hl 0 rfl) ?_
  refine lv_if_lt (tgt := 36) hx hb dX4_putOnTape_4 (by decide) (fun c => absurd c (by decide)) (fun _ => ?_)
  refine lv_aload_n hx hb dX4_putOnTape_7 rfl (lv_at hl 1 rfl) ?_
  refine va_get (D := D) (ci := 4) (v := .ref (q 130)) (C := RX4) (T := TX4) (N := 12) hx hb hts iX4 hown hK hP 0 rfl rfl 0 (by decide) (hts _ qf_X4_9) (fun _ h => h) rfl dX4_putOnTape_8 ?_
  refine lv_aload_n hx hb dX4_putOnTape_11 rfl (lv_at hl 1 rfl) ?_
  refine va_get (D := D) (ci := 4) (v := .int 0) (C := RX4) (T := TX4) (N := 12) hx hb hts iX4 hown hK hP 0 rfl rfl 2 (by decide) (hts _ qf_X4_42) (fun _ h => h) rfl dX4_putOnTape_12 ?_
  refine lv_iload_n hx hb dX4_putOnTape_15 rfl (lv_at hl 2 rfl) ?_
  refine lv_iload_n hx hb dX4_putOnTape_16 rfl (lv_at hl 0 rfl) ?_
  refine lv_ishr hx hb dX4_putOnTape_17 ?_
  refine lv_topi (fun x_1 ex_1 => ?_)
  refine lv_i2b (v := x_1.toInt8.toInt32) hx hb dX4_putOnTape_18 rfl ?_
  refine va_bast hx hb hK hP hD hS 1 0 rfl rfl (xin 0 900 rfl (by decide) (by decide)) dX4_putOnTape_19 (fun H locs hP hD hS => ?_)
  have hP : va_P D vwCl [((q 5), .inr (4, [.ref (q 130), .ref (q 131), .int 0, .int 0, .int 0, .int 0, .int 0, .int 0, .int 0, .long 0, .int (-1), .int (-1)])), ((q 130), .inl (k 0, 900, .inl (upd f (0 : Int32).toNatClampNeg (vp_nar .byte x_1.toInt8.toInt32))))] H := hP
  have hD : va_D A [((q 5), .inr (4, [.ref (q 130), .ref (q 131), .int 0, .int 0, .int 0, .int 0, .int 0, .int 0, .int 0, .long 0, .int (-1), .int (-1)])), ((q 130), .inl (k 0, 900, .inl (upd f (0 : Int32).toNatClampNeg (vp_nar .byte x_1.toInt8.toInt32))))] := hD
  refine lv_aload_n hx hb dX4_putOnTape_20 rfl (lv_at hl 1 rfl) ?_
  refine lv_dup hx hb dX4_putOnTape_21 rfl ?_
  refine va_get (D := D) (ci := 4) (v := .int 0) (C := RX4) (T := TX4) (N := 12) hx hb hts iX4 hown hK hP 0 rfl rfl 2 (by decide) (hts _ qf_X4_42) (fun _ h => h) rfl dX4_putOnTape_22 ?_
  refine lv_iconst (v := 1) hx hb dX4_putOnTape_25 (by decide) ?_
  refine lv_iadd hx hb dX4_putOnTape_26 ?_
  refine lv_topi (fun x_2 ex_2 => ?_)
  obtain rfl : x_2 = 1 := ex_2.trans (by decide +kernel)
  refine va_put (D := D) (ci := 4) (v := .int 1) (ty := .int) (C := RX4) (T := TX4) (N := 12) hx hb hts iX4 tyX4 tyX4_ok nmX4 hown hK hP hD hS 0 rfl rfl 2 (by decide) (hts _ qf_X4_42) (fun _ h => h) rfl (by decide +kernel) rfl rfl (Nat.le_of_ble_eq_true rfl) dX4_putOnTape_27 (fun H locs hP hD hS => ?_)
  have hP : va_P D vwCl [((q 5), .inr (4, [.ref (q 130), .ref (q 131), .int 1, .int 0, .int 0, .int 0, .int 0, .int 0, .int 0, .long 0, .int (-1), .int (-1)])), ((q 130), .inl (k 0, 900, .inl (upd f (0 : Int32).toNatClampNeg (vp_nar .byte x_1.toInt8.toInt32))))] H := hP
  have hD : va_D A [((q 5), .inr (4, [.ref (q 130), .ref (q 131), .int 1, .int 0, .int 0, .int 0, .int 0, .int 0, .int 0, .long 0, .int (-1), .int (-1)])), ((q 130), .inl (k 0, 900, .inl (upd f (0 : Int32).toNatClampNeg (vp_nar .byte x_1.toInt8.toInt32))))] := hD
  refine lv_iinc (v := 16) (lv' := [(2, .int 16), (0, .ref (q 5)), (1, .int x)]) hx hb dX4_putOnTape_30 hl (k := 0) rfl (by decide +kernel) (by decide) rfl (fun ls hl => ?_)
  refine lv_goto (tgt := 3) hx hb dX4_putOnTape_33 (by decide) ?_
  refine lv_iload_n hx hb dX4_putOnTape_3 rfl (lv_at hl 0 rfl) ?_
  refine lv_if_lt (tgt := 36) hx hb dX4_putOnTape_4 (by decide) (fun c => absurd c (by decide)) (fun _ => ?_)
  refine lv_aload_n hx hb dX4_putOnTape_7 rfl (lv_at hl 1 rfl) ?_
  refine va_get (D := D) (ci := 4) (v := .ref (q 130)) (C := RX4) (T := TX4) (N := 12) hx hb hts iX4 hown hK hP 0 rfl rfl 0 (by decide) (hts _ qf_X4_9) (fun _ h => h) rfl dX4_putOnTape_8 ?_
  refine lv_aload_n hx hb dX4_putOnTape_11 rfl (lv_at hl 1 rfl) ?_
  refine va_get (D := D) (ci := 4) (v := .int 1) (C := RX4) (T := TX4) (N := 12) hx hb hts iX4 hown hK hP 0 rfl rfl 2 (by decide) (hts _ qf_X4_42) (fun _ h => h) rfl dX4_putOnTape_12 ?_
  refine lv_iload_n hx hb dX4_putOnTape_15 rfl (lv_at hl 2 rfl) ?_
  refine lv_iload_n hx hb dX4_putOnTape_16 rfl (lv_at hl 0 rfl) ?_
  refine lv_ishr hx hb dX4_putOnTape_17 ?_
  refine lv_topi (fun x_3 ex_3 => ?_)
  refine lv_i2b (v := x_3.toInt8.toInt32) hx hb dX4_putOnTape_18 rfl ?_
  refine va_bast hx hb hK hP hD hS 1 0 rfl rfl (xin 1 900 rfl (by decide) (by decide)) dX4_putOnTape_19 (fun H locs hP hD hS => ?_)
  have hP : va_P D vwCl [((q 5), .inr (4, [.ref (q 130), .ref (q 131), .int 1, .int 0, .int 0, .int 0, .int 0, .int 0, .int 0, .long 0, .int (-1), .int (-1)])), ((q 130), .inl (k 0, 900, .inl (upd (upd f (0 : Int32).toNatClampNeg (vp_nar .byte x_1.toInt8.toInt32)) (1 : Int32).toNatClampNeg (vp_nar .byte x_3.toInt8.toInt32))))] H := hP
  have hD : va_D A [((q 5), .inr (4, [.ref (q 130), .ref (q 131), .int 1, .int 0, .int 0, .int 0, .int 0, .int 0, .int 0, .long 0, .int (-1), .int (-1)])), ((q 130), .inl (k 0, 900, .inl (upd (upd f (0 : Int32).toNatClampNeg (vp_nar .byte x_1.toInt8.toInt32)) (1 : Int32).toNatClampNeg (vp_nar .byte x_3.toInt8.toInt32))))] := hD
  refine lv_aload_n hx hb dX4_putOnTape_20 rfl (lv_at hl 1 rfl) ?_
  refine lv_dup hx hb dX4_putOnTape_21 rfl ?_
  refine va_get (D := D) (ci := 4) (v := .int 1) (C := RX4) (T := TX4) (N := 12) hx hb hts iX4 hown hK hP 0 rfl rfl 2 (by decide) (hts _ qf_X4_42) (fun _ h => h) rfl dX4_putOnTape_22 ?_
  refine lv_iconst (v := 1) hx hb dX4_putOnTape_25 (by decide) ?_
  refine lv_iadd hx hb dX4_putOnTape_26 ?_
  refine lv_topi (fun x_4 ex_4 => ?_)
  obtain rfl : x_4 = 2 := ex_4.trans (by decide +kernel)
  refine va_put (D := D) (ci := 4) (v := .int 2) (ty := .int) (C := RX4) (T := TX4) (N := 12) hx hb hts iX4 tyX4 tyX4_ok nmX4 hown hK hP hD hS 0 rfl rfl 2 (by decide) (hts _ qf_X4_42) (fun _ h => h) rfl (by decide +kernel) rfl rfl (Nat.le_of_ble_eq_true rfl) dX4_putOnTape_27 (fun H locs hP hD hS => ?_)
  have hP : va_P D vwCl [((q 5), .inr (4, [.ref (q 130), .ref (q 131), .int 2, .int 0, .int 0, .int 0, .int 0, .int 0, .int 0, .long 0, .int (-1), .int (-1)])), ((q 130), .inl (k 0, 900, .inl (upd (upd f (0 : Int32).toNatClampNeg (vp_nar .byte x_1.toInt8.toInt32)) (1 : Int32).toNatClampNeg (vp_nar .byte x_3.toInt8.toInt32))))] H := hP
  have hD : va_D A [((q 5), .inr (4, [.ref (q 130), .ref (q 131), .int 2, .int 0, .int 0, .int 0, .int 0, .int 0, .int 0, .long 0, .int (-1), .int (-1)])), ((q 130), .inl (k 0, 900, .inl (upd (upd f (0 : Int32).toNatClampNeg (vp_nar .byte x_1.toInt8.toInt32)) (1 : Int32).toNatClampNeg (vp_nar .byte x_3.toInt8.toInt32))))] := hD
  refine lv_iinc (v := 8) (lv' := [(2, .int 8), (0, .ref (q 5)), (1, .int x)]) hx hb dX4_putOnTape_30 hl (k := 0) rfl (by decide +kernel) (by decide) rfl (fun ls hl => ?_)
  refine lv_goto (tgt := 3) hx hb dX4_putOnTape_33 (by decide) ?_
  refine lv_iload_n hx hb dX4_putOnTape_3 rfl (lv_at hl 0 rfl) ?_
  refine lv_if_lt (tgt := 36) hx hb dX4_putOnTape_4 (by decide) (fun c => absurd c (by decide)) (fun _ => ?_)
  refine lv_aload_n hx hb dX4_putOnTape_7 rfl (lv_at hl 1 rfl) ?_
  refine va_get (D := D) (ci := 4) (v := .ref (q 130)) (C := RX4) (T := TX4) (N := 12) hx hb hts iX4 hown hK hP 0 rfl rfl 0 (by decide) (hts _ qf_X4_9) (fun _ h => h) rfl dX4_putOnTape_8 ?_
  refine lv_aload_n hx hb dX4_putOnTape_11 rfl (lv_at hl 1 rfl) ?_
  refine va_get (D := D) (ci := 4) (v := .int 2) (C := RX4) (T := TX4) (N := 12) hx hb hts iX4 hown hK hP 0 rfl rfl 2 (by decide) (hts _ qf_X4_42) (fun _ h => h) rfl dX4_putOnTape_12 ?_
  refine lv_iload_n hx hb dX4_putOnTape_15 rfl (lv_at hl 2 rfl) ?_
  refine lv_iload_n hx hb dX4_putOnTape_16 rfl (lv_at hl 0 rfl) ?_
  refine lv_ishr hx hb dX4_putOnTape_17 ?_
  refine lv_topi (fun x_5 ex_5 => ?_)
  refine lv_i2b (v := x_5.toInt8.toInt32) hx hb dX4_putOnTape_18 rfl ?_
  refine va_bast hx hb hK hP hD hS 1 0 rfl rfl (xin 2 900 rfl (by decide) (by decide)) dX4_putOnTape_19 (fun H locs hP hD hS => ?_)
  have hP : va_P D vwCl [((q 5), .inr (4, [.ref (q 130), .ref (q 131), .int 2, .int 0, .int 0, .int 0, .int 0, .int 0, .int 0, .long 0, .int (-1), .int (-1)])), ((q 130), .inl (k 0, 900, .inl (upd (upd (upd f (0 : Int32).toNatClampNeg (vp_nar .byte x_1.toInt8.toInt32)) (1 : Int32).toNatClampNeg (vp_nar .byte x_3.toInt8.toInt32)) (2 : Int32).toNatClampNeg (vp_nar .byte x_5.toInt8.toInt32))))] H := hP
  have hD : va_D A [((q 5), .inr (4, [.ref (q 130), .ref (q 131), .int 2, .int 0, .int 0, .int 0, .int 0, .int 0, .int 0, .long 0, .int (-1), .int (-1)])), ((q 130), .inl (k 0, 900, .inl (upd (upd (upd f (0 : Int32).toNatClampNeg (vp_nar .byte x_1.toInt8.toInt32)) (1 : Int32).toNatClampNeg (vp_nar .byte x_3.toInt8.toInt32)) (2 : Int32).toNatClampNeg (vp_nar .byte x_5.toInt8.toInt32))))] := hD
  refine lv_aload_n hx hb dX4_putOnTape_20 rfl (lv_at hl 1 rfl) ?_
  refine lv_dup hx hb dX4_putOnTape_21 rfl ?_
  refine va_get (D := D) (ci := 4) (v := .int 2) (C := RX4) (T := TX4) (N := 12) hx hb hts iX4 hown hK hP 0 rfl rfl 2 (by decide) (hts _ qf_X4_42) (fun _ h => h) rfl dX4_putOnTape_22 ?_
  refine lv_iconst (v := 1) hx hb dX4_putOnTape_25 (by decide) ?_
  refine lv_iadd hx hb dX4_putOnTape_26 ?_
  refine lv_topi (fun x_6 ex_6 => ?_)
  obtain rfl : x_6 = 3 := ex_6.trans (by decide +kernel)
  refine va_put (D := D) (ci := 4) (v := .int 3) (ty := .int) (C := RX4) (T := TX4) (N := 12) hx hb hts iX4 tyX4 tyX4_ok nmX4 hown hK hP hD hS 0 rfl rfl 2 (by decide) (hts _ qf_X4_42) (fun _ h => h) rfl (by decide +kernel) rfl rfl (Nat.le_of_ble_eq_true rfl) dX4_putOnTape_27 (fun H locs hP hD hS => ?_)
  have hP : va_P D vwCl [((q 5), .inr (4, [.ref (q 130), .ref (q 131), .int 3, .int 0, .int 0, .int 0, .int 0, .int 0, .int 0, .long 0, .int (-1), .int (-1)])), ((q 130), .inl (k 0, 900, .inl (upd (upd (upd f (0 : Int32).toNatClampNeg (vp_nar .byte x_1.toInt8.toInt32)) (1 : Int32).toNatClampNeg (vp_nar .byte x_3.toInt8.toInt32)) (2 : Int32).toNatClampNeg (vp_nar .byte x_5.toInt8.toInt32))))] H := hP
  have hD : va_D A [((q 5), .inr (4, [.ref (q 130), .ref (q 131), .int 3, .int 0, .int 0, .int 0, .int 0, .int 0, .int 0, .long 0, .int (-1), .int (-1)])), ((q 130), .inl (k 0, 900, .inl (upd (upd (upd f (0 : Int32).toNatClampNeg (vp_nar .byte x_1.toInt8.toInt32)) (1 : Int32).toNatClampNeg (vp_nar .byte x_3.toInt8.toInt32)) (2 : Int32).toNatClampNeg (vp_nar .byte x_5.toInt8.toInt32))))] := hD
  refine lv_iinc (v := 0) (lv' := [(2, .int 0), (0, .ref (q 5)), (1, .int x)]) hx hb dX4_putOnTape_30 hl (k := 0) rfl (by decide +kernel) (by decide) rfl (fun ls hl => ?_)
  refine lv_goto (tgt := 3) hx hb dX4_putOnTape_33 (by decide) ?_
  refine lv_iload_n hx hb dX4_putOnTape_3 rfl (lv_at hl 0 rfl) ?_
  refine lv_if_lt (tgt := 36) hx hb dX4_putOnTape_4 (by decide) (fun c => absurd c (by decide)) (fun _ => ?_)
  refine lv_aload_n hx hb dX4_putOnTape_7 rfl (lv_at hl 1 rfl) ?_
  refine va_get (D := D) (ci := 4) (v := .ref (q 130)) (C := RX4) (T := TX4) (N := 12) hx hb hts iX4 hown hK hP 0 rfl rfl 0 (by decide) (hts _ qf_X4_9) (fun _ h => h) rfl dX4_putOnTape_8 ?_
  refine lv_aload_n hx hb dX4_putOnTape_11 rfl (lv_at hl 1 rfl) ?_
  refine va_get (D := D) (ci := 4) (v := .int 3) (C := RX4) (T := TX4) (N := 12) hx hb hts iX4 hown hK hP 0 rfl rfl 2 (by decide) (hts _ qf_X4_42) (fun _ h => h) rfl dX4_putOnTape_12 ?_
  refine lv_iload_n hx hb dX4_putOnTape_15 rfl (lv_at hl 2 rfl) ?_
  refine lv_iload_n hx hb dX4_putOnTape_16 rfl (lv_at hl 0 rfl) ?_
  refine lv_ishr hx hb dX4_putOnTape_17 ?_
  refine lv_topi (fun x_7 ex_7 => ?_)
  refine lv_i2b (v := x_7.toInt8.toInt32) hx hb dX4_putOnTape_18 rfl ?_
  refine va_bast hx hb hK hP hD hS 1 0 rfl rfl (xin 3 900 rfl (by decide) (by decide)) dX4_putOnTape_19 (fun H locs hP hD hS => ?_)
  have hP : va_P D vwCl [((q 5), .inr (4, [.ref (q 130), .ref (q 131), .int 3, .int 0, .int 0, .int 0, .int 0, .int 0, .int 0, .long 0, .int (-1), .int (-1)])), ((q 130), .inl (k 0, 900, .inl (upd (upd (upd (upd f (0 : Int32).toNatClampNeg (vp_nar .byte x_1.toInt8.toInt32)) (1 : Int32).toNatClampNeg (vp_nar .byte x_3.toInt8.toInt32)) (2 : Int32).toNatClampNeg (vp_nar .byte x_5.toInt8.toInt32)) (3 : Int32).toNatClampNeg (vp_nar .byte x_7.toInt8.toInt32))))] H := hP
  have hD : va_D A [((q 5), .inr (4, [.ref (q 130), .ref (q 131), .int 3, .int 0, .int 0, .int 0, .int 0, .int 0, .int 0, .long 0, .int (-1), .int (-1)])), ((q 130), .inl (k 0, 900, .inl (upd (upd (upd (upd f (0 : Int32).toNatClampNeg (vp_nar .byte x_1.toInt8.toInt32)) (1 : Int32).toNatClampNeg (vp_nar .byte x_3.toInt8.toInt32)) (2 : Int32).toNatClampNeg (vp_nar .byte x_5.toInt8.toInt32)) (3 : Int32).toNatClampNeg (vp_nar .byte x_7.toInt8.toInt32))))] := hD
  refine lv_aload_n hx hb dX4_putOnTape_20 rfl (lv_at hl 1 rfl) ?_
  refine lv_dup hx hb dX4_putOnTape_21 rfl ?_
  refine va_get (D := D) (ci := 4) (v := .int 3) (C := RX4) (T := TX4) (N := 12) hx hb hts iX4 hown hK hP 0 rfl rfl 2 (by decide) (hts _ qf_X4_42) (fun _ h => h) rfl dX4_putOnTape_22 ?_
  refine lv_iconst (v := 1) hx hb dX4_putOnTape_25 (by decide) ?_
  refine lv_iadd hx hb dX4_putOnTape_26 ?_
  refine lv_topi (fun x_8 ex_8 => ?_)
  obtain rfl : x_8 = 4 := ex_8.trans (by decide +kernel)
  refine va_put (D := D) (ci := 4) (v := .int 4) (ty := .int) (C := RX4) (T := TX4) (N := 12) hx hb hts iX4 tyX4 tyX4_ok nmX4 hown hK hP hD hS 0 rfl rfl 2 (by decide) (hts _ qf_X4_42) (fun _ h => h) rfl (by decide +kernel) rfl rfl (Nat.le_of_ble_eq_true rfl) dX4_putOnTape_27 (fun H locs hP hD hS => ?_)
  have hP : va_P D vwCl [((q 5), .inr (4, [.ref (q 130), .ref (q 131), .int 4, .int 0, .int 0, .int 0, .int 0, .int 0, .int 0, .long 0, .int (-1), .int (-1)])), ((q 130), .inl (k 0, 900, .inl (upd (upd (upd (upd f (0 : Int32).toNatClampNeg (vp_nar .byte x_1.toInt8.toInt32)) (1 : Int32).toNatClampNeg (vp_nar .byte x_3.toInt8.toInt32)) (2 : Int32).toNatClampNeg (vp_nar .byte x_5.toInt8.toInt32)) (3 : Int32).toNatClampNeg (vp_nar .byte x_7.toInt8.toInt32))))] H := hP
  have hD : va_D A [((q 5), .inr (4, [.ref (q 130), .ref (q 131), .int 4, .int 0, .int 0, .int 0, .int 0, .int 0, .int 0, .long 0, .int (-1), .int (-1)])), ((q 130), .inl (k 0, 900, .inl (upd (upd (upd (upd f (0 : Int32).toNatClampNeg (vp_nar .byte x_1.toInt8.toInt32)) (1 : Int32).toNatClampNeg (vp_nar .byte x_3.toInt8.toInt32)) (2 : Int32).toNatClampNeg (vp_nar .byte x_5.toInt8.toInt32)) (3 : Int32).toNatClampNeg (vp_nar .byte x_7.toInt8.toInt32))))] := hD
  refine lv_iinc (v := (-8)) (lv' := [(2, .int (-8)), (0, .ref (q 5)), (1, .int x)]) hx hb dX4_putOnTape_30 hl (k := 0) rfl (by decide +kernel) (by decide) rfl (fun ls hl => ?_)
  refine lv_goto (tgt := 3) hx hb dX4_putOnTape_33 (by decide) ?_
  refine lv_iload_n hx hb dX4_putOnTape_3 rfl (lv_at hl 0 rfl) ?_
  refine lv_if_lt (tgt := 36) hx hb dX4_putOnTape_4 (by decide) (fun _ => ?_) (fun c => absurd (by decide) c)
  exact EWv hx hb hr hlocks hS (upd (upd (upd (upd f (0 : Int32).toNatClampNeg (vp_nar .byte x_1.toInt8.toInt32)) (1 : Int32).toNatClampNeg (vp_nar .byte x_3.toInt8.toInt32)) (2 : Int32).toNatClampNeg (vp_nar .byte x_5.toInt8.toInt32)) (3 : Int32).toNatClampNeg (vp_nar .byte x_7.toInt8.toInt32)) rfl trivial hP hD dX4_putOnTape_36
set_option maxHeartbeats 4000000 in
set_option maxRecDepth 100000 in
theorem c_tape4 (l : Launch) (D : va_G) (k : Nat → ClassId) (q : Nat → Nat) (f : Nat → Int32) (x : Int32) : WD (σ := (Nat → Int32)) l yX4_putOnTape cX4_putOnTape 3 none 0 0 0 D k [.ref (q 5), .int x] [((q 5), .inr (4, [.ref (q 130), .ref (q 131), .int 4, .int 0, .int 0, .int 0, .int 0, .int 0, .int 0, .long 0, .int (-1), .int (-1)])), ((q 130), .inl (k 0, 900, .inl f))] (fun _ => none) (fun _ => True) (fun g => [((q 5), .inr (4, [.ref (q 130), .ref (q 131), .int 8, .int 0, .int 0, .int 0, .int 0, .int 0, .int 0, .long 0, .int (-1), .int (-1)])), ((q 130), .inl (k 0, 900, .inl g))]) := by
  refine MW (by decide) (Nat.le_of_ble_eq_true rfl) (fun p e s m below meth c ls A hx hb hml hr hlocks hin hts hown hKK hP hD hS hA hl => ?_)
  have hK := hKK.1
  have hl : lv_has ls 3 [(0, .ref (q 5)), (1, .int x)] := hl
  refine lv_bipush (v := 24) hx hb dX4_putOnTape_0 (by decide) ?_
  refine lv_istore_n (lv' := [(2, .int 24), (0, .ref (q 5)), (1, .int x)]) hx hb dX4_putOnTape_2 rfl hl (by decide) rfl (fun ls hl => ?_)
  refine lv_iload_n hx hb dX4_putOnTape_3 rfl (lv_at hl 0 rfl) ?_
  refine lv_if_lt (tgt := 36) hx hb dX4_putOnTape_4 (by decide) (fun c => absurd c (by decide)) (fun _ => ?_)
  refine lv_aload_n hx hb dX4_putOnTape_7 rfl (lv_at hl 1 rfl) ?_
  refine va_get (D := D) (ci := 4) (v := .ref (q 130)) (C := RX4) (T := TX4) (N := 12) hx hb hts iX4 hown hK hP 0 rfl rfl 0 (by decide) (hts _ qf_X4_9) (fun _ h => h) rfl dX4_putOnTape_8 ?_
  refine lv_aload_n hx hb dX4_putOnTape_11 rfl (lv_at hl 1 rfl) ?_
  refine va_get (D := D) (ci := 4) (v := .int 4) (C := RX4) (T := TX4) (N := 12) hx hb hts iX4 hown hK hP 0 rfl rfl 2 (by decide) (hts _ qf_X4_42) (fun _ h => h) rfl dX4_putOnTape_12 ?_
  refine lv_iload_n hx hb dX4_putOnTape_15 rfl (lv_at hl 2 rfl) ?_
  refine lv_iload_n hx hb dX4_putOnTape_16 rfl (lv_at hl 0 rfl) ?_
  refine lv_ishr hx hb dX4_putOnTape_17 ?_
  refine lv_topi (fun x_1 ex_1 => ?_)
  refine lv_i2b (v := x_1.toInt8.toInt32) hx hb dX4_putOnTape_18 rfl ?_
  refine va_bast hx hb hK hP hD hS 1 0 rfl rfl (xin 4 900 rfl (by decide) (by decide)) dX4_putOnTape_19 (fun H locs hP hD hS => ?_)
  have hP : va_P D vwCl [((q 5), .inr (4, [.ref (q 130), .ref (q 131), .int 4, .int 0, .int 0, .int 0, .int 0, .int 0, .int 0, .long 0, .int (-1), .int (-1)])), ((q 130), .inl (k 0, 900, .inl (upd f (4 : Int32).toNatClampNeg (vp_nar .byte x_1.toInt8.toInt32))))] H := hP
  have hD : va_D A [((q 5), .inr (4, [.ref (q 130), .ref (q 131), .int 4, .int 0, .int 0, .int 0, .int 0, .int 0, .int 0, .long 0, .int (-1), .int (-1)])), ((q 130), .inl (k 0, 900, .inl (upd f (4 : Int32).toNatClampNeg (vp_nar .byte x_1.toInt8.toInt32))))] := hD
  refine lv_aload_n hx hb dX4_putOnTape_20 rfl (lv_at hl 1 rfl) ?_
  refine lv_dup hx hb dX4_putOnTape_21 rfl ?_
  refine va_get (D := D) (ci := 4) (v := .int 4) (C := RX4) (T := TX4) (N := 12) hx hb hts iX4 hown hK hP 0 rfl rfl 2 (by decide) (hts _ qf_X4_42) (fun _ h => h) rfl dX4_putOnTape_22 ?_
  refine lv_iconst (v := 1) hx hb dX4_putOnTape_25 (by decide) ?_
  refine lv_iadd hx hb dX4_putOnTape_26 ?_
  refine lv_topi (fun x_2 ex_2 => ?_)
  obtain rfl : x_2 = 5 := ex_2.trans (by decide +kernel)
  refine va_put (D := D) (ci := 4) (v := .int 5) (ty := .int) (C := RX4) (T := TX4) (N := 12) hx hb hts iX4 tyX4 tyX4_ok nmX4 hown hK hP hD hS 0 rfl rfl 2 (by decide) (hts _ qf_X4_42) (fun _ h => h) rfl (by decide +kernel) rfl rfl (Nat.le_of_ble_eq_true rfl) dX4_putOnTape_27 (fun H locs hP hD hS => ?_)
  have hP : va_P D vwCl [((q 5), .inr (4, [.ref (q 130), .ref (q 131), .int 5, .int 0, .int 0, .int 0, .int 0, .int 0, .int 0, .long 0, .int (-1), .int (-1)])), ((q 130), .inl (k 0, 900, .inl (upd f (4 : Int32).toNatClampNeg (vp_nar .byte x_1.toInt8.toInt32))))] H := hP
  have hD : va_D A [((q 5), .inr (4, [.ref (q 130), .ref (q 131), .int 5, .int 0, .int 0, .int 0, .int 0, .int 0, .int 0, .long 0, .int (-1), .int (-1)])), ((q 130), .inl (k 0, 900, .inl (upd f (4 : Int32).toNatClampNeg (vp_nar .byte x_1.toInt8.toInt32))))] := hD
  refine lv_iinc (v := 16) (lv' := [(2, .int 16), (0, .ref (q 5)), (1, .int x)]) hx hb dX4_putOnTape_30 hl (k := 0) rfl (by decide +kernel) (by decide) rfl (fun ls hl => ?_)
  refine lv_goto (tgt := 3) hx hb dX4_putOnTape_33 (by decide) ?_
  refine lv_iload_n hx hb dX4_putOnTape_3 rfl (lv_at hl 0 rfl) ?_
  refine lv_if_lt (tgt := 36) hx hb dX4_putOnTape_4 (by decide) (fun c => absurd c (by decide)) (fun _ => ?_)
  refine lv_aload_n hx hb dX4_putOnTape_7 rfl (lv_at hl 1 rfl) ?_
  refine va_get (D := D) (ci := 4) (v := .ref (q 130)) (C := RX4) (T := TX4) (N := 12) hx hb hts iX4 hown hK hP 0 rfl rfl 0 (by decide) (hts _ qf_X4_9) (fun _ h => h) rfl dX4_putOnTape_8 ?_
  refine lv_aload_n hx hb dX4_putOnTape_11 rfl (lv_at hl 1 rfl) ?_
  refine va_get (D := D) (ci := 4) (v := .int 5) (C := RX4) (T := TX4) (N := 12) hx hb hts iX4 hown hK hP 0 rfl rfl 2 (by decide) (hts _ qf_X4_42) (fun _ h => h) rfl dX4_putOnTape_12 ?_
  refine lv_iload_n hx hb dX4_putOnTape_15 rfl (lv_at hl 2 rfl) ?_
  refine lv_iload_n hx hb dX4_putOnTape_16 rfl (lv_at hl 0 rfl) ?_
  refine lv_ishr hx hb dX4_putOnTape_17 ?_
  refine lv_topi (fun x_3 ex_3 => ?_)
  refine lv_i2b (v := x_3.toInt8.toInt32) hx hb dX4_putOnTape_18 rfl ?_
  refine va_bast hx hb hK hP hD hS 1 0 rfl rfl (xin 5 900 rfl (by decide) (by decide)) dX4_putOnTape_19 (fun H locs hP hD hS => ?_)
  have hP : va_P D vwCl [((q 5), .inr (4, [.ref (q 130), .ref (q 131), .int 5, .int 0, .int 0, .int 0, .int 0, .int 0, .int 0, .long 0, .int (-1), .int (-1)])), ((q 130), .inl (k 0, 900, .inl (upd (upd f (4 : Int32).toNatClampNeg (vp_nar .byte x_1.toInt8.toInt32)) (5 : Int32).toNatClampNeg (vp_nar .byte x_3.toInt8.toInt32))))] H := hP
  have hD : va_D A [((q 5), .inr (4, [.ref (q 130), .ref (q 131), .int 5, .int 0, .int 0, .int 0, .int 0, .int 0, .int 0, .long 0, .int (-1), .int (-1)])), ((q 130), .inl (k 0, 900, .inl (upd (upd f (4 : Int32).toNatClampNeg (vp_nar .byte x_1.toInt8.toInt32)) (5 : Int32).toNatClampNeg (vp_nar .byte x_3.toInt8.toInt32))))] := hD
  refine lv_aload_n hx hb dX4_putOnTape_20 rfl (lv_at hl 1 rfl) ?_
  refine lv_dup hx hb dX4_putOnTape_21 rfl ?_
  refine va_get (D := D) (ci := 4) (v := .int 5) (C := RX4) (T := TX4) (N := 12) hx hb hts iX4 hown hK hP 0 rfl rfl 2 (by decide) (hts _ qf_X4_42) (fun _ h => h) rfl dX4_putOnTape_22 ?_
  refine lv_iconst (v := 1) hx hb dX4_putOnTape_25 (by decide) ?_
  refine lv_iadd hx hb dX4_putOnTape_26 ?_
  refine lv_topi (fun x_4 ex_4 => ?_)
  obtain rfl : x_4 = 6 := ex_4.trans (by decide +kernel)
  refine va_put (D := D) (ci := 4) (v := .int 6) (ty := .int) (C := RX4) (T := TX4) (N := 12) hx hb hts iX4 tyX4 tyX4_ok nmX4 hown hK hP hD hS 0 rfl rfl 2 (by decide) (hts _ qf_X4_42) (fun _ h => h) rfl (by decide +kernel) rfl rfl (Nat.le_of_ble_eq_true rfl) dX4_putOnTape_27 (fun H locs hP hD hS => ?_)
  have hP : va_P D vwCl [((q 5), .inr (4, [.ref (q 130), .ref (q 131), .int 6, .int 0, .int 0, .int 0, .int 0, .int 0, .int 0, .long 0, .int (-1), .int (-1)])), ((q 130), .inl (k 0, 900, .inl (upd (upd f (4 : Int32).toNatClampNeg (vp_nar .byte x_1.toInt8.toInt32)) (5 : Int32).toNatClampNeg (vp_nar .byte x_3.toInt8.toInt32))))] H := hP
  have hD : va_D A [((q 5), .inr (4, [.ref (q 130), .ref (q 131), .int 6, .int 0, .int 0, .int 0, .int 0, .int 0, .int 0, .long 0, .int (-1), .int (-1)])), ((q 130), .inl (k 0, 900, .inl (upd (upd f (4 : Int32).toNatClampNeg (vp_nar .byte x_1.toInt8.toInt32)) (5 : Int32).toNatClampNeg (vp_nar .byte x_3.toInt8.toInt32))))] := hD
  refine lv_iinc (v := 8) (lv' := [(2, .int 8), (0, .ref (q 5)), (1, .int x)]) hx hb dX4_putOnTape_30 hl (k := 0) rfl (by decide +kernel) (by decide) rfl (fun ls hl => ?_)
  refine lv_goto (tgt := 3) hx hb dX4_putOnTape_33 (by decide) ?_
  refine lv_iload_n hx hb dX4_putOnTape_3 rfl (lv_at hl 0 rfl) ?_
  refine lv_if_lt (tgt := 36) hx hb dX4_putOnTape_4 (by decide) (fun c => absurd c (by decide)) (fun _ => ?_)
  refine lv_aload_n hx hb dX4_putOnTape_7 rfl (lv_at hl 1 rfl) ?_
  refine va_get (D := D) (ci := 4) (v := .ref (q 130)) (C := RX4) (T := TX4) (N := 12) hx hb hts iX4 hown hK hP 0 rfl rfl 0 (by decide) (hts _ qf_X4_9) (fun _ h => h) rfl dX4_putOnTape_8 ?_
  refine lv_aload_n hx hb dX4_putOnTape_11 rfl (lv_at hl 1 rfl) ?_
  refine va_get (D := D) (ci := 4) (v := .int 6) (C := RX4) (T := TX4) (N := 12) hx hb hts iX4 hown hK hP 0 rfl rfl 2 (by decide) (hts _ qf_X4_42) (fun _ h => h) rfl dX4_putOnTape_12 ?_
  refine lv_iload_n hx hb dX4_putOnTape_15 rfl (lv_at hl 2 rfl) ?_
  refine lv_iload_n hx hb dX4_putOnTape_16 rfl (lv_at hl 0 rfl) ?_
  refine lv_ishr hx hb dX4_putOnTape_17 ?_
  refine lv_topi (fun x_5 ex_5 => ?_)
  refine lv_i2b (v := x_5.toInt8.toInt32) hx hb dX4_putOnTape_18 rfl ?_
  refine va_bast hx hb hK hP hD hS 1 0 rfl rfl (xin 6 900 rfl (by decide) (by decide)) dX4_putOnTape_19 (fun H locs hP hD hS => ?_)
  have hP : va_P D vwCl [((q 5), .inr (4, [.ref (q 130), .ref (q 131), .int 6, .int 0, .int 0, .int 0, .int 0, .int 0, .int 0, .long 0, .int (-1), .int (-1)])), ((q 130), .inl (k 0, 900, .inl (upd (upd (upd f (4 : Int32).toNatClampNeg (vp_nar .byte x_1.toInt8.toInt32)) (5 : Int32).toNatClampNeg (vp_nar .byte x_3.toInt8.toInt32)) (6 : Int32).toNatClampNeg (vp_nar .byte x_5.toInt8.toInt32))))] H := hP
  have hD : va_D A [((q 5), .inr (4, [.ref (q 130), .ref (q 131), .int 6, .int 0, .int 0, .int 0, .int 0, .int 0, .int 0, .long 0, .int (-1), .int (-1)])), ((q 130), .inl (k 0, 900, .inl (upd (upd (upd f (4 : Int32).toNatClampNeg (vp_nar .byte x_1.toInt8.toInt32)) (5 : Int32).toNatClampNeg (vp_nar .byte x_3.toInt8.toInt32)) (6 : Int32).toNatClampNeg (vp_nar .byte x_5.toInt8.toInt32))))] := hD
  refine lv_aload_n hx hb dX4_putOnTape_20 rfl (lv_at hl 1 rfl) ?_
  refine lv_dup hx hb dX4_putOnTape_21 rfl ?_
  refine va_get (D := D) (ci := 4) (v := .int 6) (C := RX4) (T := TX4) (N := 12) hx hb hts iX4 hown hK hP 0 rfl rfl 2 (by decide) (hts _ qf_X4_42) (fun _ h => h) rfl dX4_putOnTape_22 ?_
  refine lv_iconst (v := 1) hx hb dX4_putOnTape_25 (by decide) ?_
  refine lv_iadd hx hb dX4_putOnTape_26 ?_
  refine lv_topi (fun x_6 ex_6 => ?_)
  obtain rfl : x_6 = 7 := ex_6.trans (by decide +kernel)
  refine va_put (D := D) (ci := 4) (v := .int 7) (ty := .int) (C := RX4) (T := TX4) (N := 12) hx hb hts iX4 tyX4 tyX4_ok nmX4 hown hK hP hD hS 0 rfl rfl 2 (by decide) (hts _ qf_X4_42) (fun _ h => h) rfl (by decide +kernel) rfl rfl (Nat.le_of_ble_eq_true rfl) dX4_putOnTape_27 (fun H locs hP hD hS => ?_)
  have hP : va_P D vwCl [((q 5), .inr (4, [.ref (q 130), .ref (q 131), .int 7, .int 0, .int 0, .int 0, .int 0, .int 0, .int 0, .long 0, .int (-1), .int (-1)])), ((q 130), .inl (k 0, 900, .inl (upd (upd (upd f (4 : Int32).toNatClampNeg (vp_nar .byte x_1.toInt8.toInt32)) (5 : Int32).toNatClampNeg (vp_nar .byte x_3.toInt8.toInt32)) (6 : Int32).toNatClampNeg (vp_nar .byte x_5.toInt8.toInt32))))] H := hP
  have hD : va_D A [((q 5), .inr (4, [.ref (q 130), .ref (q 131), .int 7, .int 0, .int 0, .int 0, .int 0, .int 0, .int 0, .long 0, .int (-1), .int (-1)])), ((q 130), .inl (k 0, 900, .inl (upd (upd (upd f (4 : Int32).toNatClampNeg (vp_nar .byte x_1.toInt8.toInt32)) (5 : Int32).toNatClampNeg (vp_nar .byte x_3.toInt8.toInt32)) (6 : Int32).toNatClampNeg (vp_nar .byte x_5.toInt8.toInt32))))] := hD
  refine lv_iinc (v := 0) (lv' := [(2, .int 0), (0, .ref (q 5)), (1, .int x)]) hx hb dX4_putOnTape_30 hl (k := 0) rfl (by decide +kernel) (by decide) rfl (fun ls hl => ?_)
  refine lv_goto (tgt := 3) hx hb dX4_putOnTape_33 (by decide) ?_
  refine lv_iload_n hx hb dX4_putOnTape_3 rfl (lv_at hl 0 rfl) ?_
  refine lv_if_lt (tgt := 36) hx hb dX4_putOnTape_4 (by decide) (fun c => absurd c (by decide)) (fun _ => ?_)
  refine lv_aload_n hx hb dX4_putOnTape_7 rfl (lv_at hl 1 rfl) ?_
  refine va_get (D := D) (ci := 4) (v := .ref (q 130)) (C := RX4) (T := TX4) (N := 12) hx hb hts iX4 hown hK hP 0 rfl rfl 0 (by decide) (hts _ qf_X4_9) (fun _ h => h) rfl dX4_putOnTape_8 ?_
  refine lv_aload_n hx hb dX4_putOnTape_11 rfl (lv_at hl 1 rfl) ?_
  refine va_get (D := D) (ci := 4) (v := .int 7) (C := RX4) (T := TX4) (N := 12) hx hb hts iX4 hown hK hP 0 rfl rfl 2 (by decide) (hts _ qf_X4_42) (fun _ h => h) rfl dX4_putOnTape_12 ?_
  refine lv_iload_n hx hb dX4_putOnTape_15 rfl (lv_at hl 2 rfl) ?_
  refine lv_iload_n hx hb dX4_putOnTape_16 rfl (lv_at hl 0 rfl) ?_
  refine lv_ishr hx hb dX4_putOnTape_17 ?_
  refine lv_topi (fun x_7 ex_7 => ?_)
  refine lv_i2b (v := x_7.toInt8.toInt32) hx hb dX4_putOnTape_18 rfl ?_
  refine va_bast hx hb hK hP hD hS 1 0 rfl rfl (xin 7 900 rfl (by decide) (by decide)) dX4_putOnTape_19 (fun H locs hP hD hS => ?_)
  have hP : va_P D vwCl [((q 5), .inr (4, [.ref (q 130), .ref (q 131), .int 7, .int 0, .int 0, .int 0, .int 0, .int 0, .int 0, .long 0, .int (-1), .int (-1)])), ((q 130), .inl (k 0, 900, .inl (upd (upd (upd (upd f (4 : Int32).toNatClampNeg (vp_nar .byte x_1.toInt8.toInt32)) (5 : Int32).toNatClampNeg (vp_nar .byte x_3.toInt8.toInt32)) (6 : Int32).toNatClampNeg (vp_nar .byte x_5.toInt8.toInt32)) (7 : Int32).toNatClampNeg (vp_nar .byte x_7.toInt8.toInt32))))] H := hP
  have hD : va_D A [((q 5), .inr (4, [.ref (q 130), .ref (q 131), .int 7, .int 0, .int 0, .int 0, .int 0, .int 0, .int 0, .long 0, .int (-1), .int (-1)])), ((q 130), .inl (k 0, 900, .inl (upd (upd (upd (upd f (4 : Int32).toNatClampNeg (vp_nar .byte x_1.toInt8.toInt32)) (5 : Int32).toNatClampNeg (vp_nar .byte x_3.toInt8.toInt32)) (6 : Int32).toNatClampNeg (vp_nar .byte x_5.toInt8.toInt32)) (7 : Int32).toNatClampNeg (vp_nar .byte x_7.toInt8.toInt32))))] := hD
  refine lv_aload_n hx hb dX4_putOnTape_20 rfl (lv_at hl 1 rfl) ?_
  refine lv_dup hx hb dX4_putOnTape_21 rfl ?_
  refine va_get (D := D) (ci := 4) (v := .int 7) (C := RX4) (T := TX4) (N := 12) hx hb hts iX4 hown hK hP 0 rfl rfl 2 (by decide) (hts _ qf_X4_42) (fun _ h => h) rfl dX4_putOnTape_22 ?_
  refine lv_iconst (v := 1) hx hb dX4_putOnTape_25 (by decide) ?_
  refine lv_iadd hx hb dX4_putOnTape_26 ?_
  refine lv_topi (fun x_8 ex_8 => ?_)
  obtain rfl : x_8 = 8 := ex_8.trans (by decide +kernel)
  refine va_put (D := D) (ci := 4) (v := .int 8) (ty := .int) (C := RX4) (T := TX4) (N := 12) hx hb hts iX4 tyX4 tyX4_ok nmX4 hown hK hP hD hS 0 rfl rfl 2 (by decide) (hts _ qf_X4_42) (fun _ h => h) rfl (by decide +kernel) rfl rfl (Nat.le_of_ble_eq_true rfl) dX4_putOnTape_27 (fun H locs hP hD hS => ?_)
  have hP : va_P D vwCl [((q 5), .inr (4, [.ref (q 130), .ref (q 131), .int 8, .int 0, .int 0, .int 0, .int 0, .int 0, .int 0, .long 0, .int (-1), .int (-1)])), ((q 130), .inl (k 0, 900, .inl (upd (upd (upd (upd f (4 : Int32).toNatClampNeg (vp_nar .byte x_1.toInt8.toInt32)) (5 : Int32).toNatClampNeg (vp_nar .byte x_3.toInt8.toInt32)) (6 : Int32).toNatClampNeg (vp_nar .byte x_5.toInt8.toInt32)) (7 : Int32).toNatClampNeg (vp_nar .byte x_7.toInt8.toInt32))))] H := hP
  have hD : va_D A [((q 5), .inr (4, [.ref (q 130), .ref (q 131), .int 8, .int 0, .int 0, .int 0, .int 0, .int 0, .int 0, .long 0, .int (-1), .int (-1)])), ((q 130), .inl (k 0, 900, .inl (upd (upd (upd (upd f (4 : Int32).toNatClampNeg (vp_nar .byte x_1.toInt8.toInt32)) (5 : Int32).toNatClampNeg (vp_nar .byte x_3.toInt8.toInt32)) (6 : Int32).toNatClampNeg (vp_nar .byte x_5.toInt8.toInt32)) (7 : Int32).toNatClampNeg (vp_nar .byte x_7.toInt8.toInt32))))] := hD
  refine lv_iinc (v := (-8)) (lv' := [(2, .int (-8)), (0, .ref (q 5)), (1, .int x)]) hx hb dX4_putOnTape_30 hl (k := 0) rfl (by decide +kernel) (by decide) rfl (fun ls hl => ?_)
  refine lv_goto (tgt := 3) hx hb dX4_putOnTape_33 (by decide) ?_
  refine lv_iload_n hx hb dX4_putOnTape_3 rfl (lv_at hl 0 rfl) ?_
  refine lv_if_lt (tgt := 36) hx hb dX4_putOnTape_4 (by decide) (fun _ => ?_) (fun c => absurd (by decide) c)
  exact EWv hx hb hr hlocks hS (upd (upd (upd (upd f (4 : Int32).toNatClampNeg (vp_nar .byte x_1.toInt8.toInt32)) (5 : Int32).toNatClampNeg (vp_nar .byte x_3.toInt8.toInt32)) (6 : Int32).toNatClampNeg (vp_nar .byte x_5.toInt8.toInt32)) (7 : Int32).toNatClampNeg (vp_nar .byte x_7.toInt8.toInt32)) rfl trivial hP hD dX4_putOnTape_36
set_option maxHeartbeats 4000000 in
set_option maxRecDepth 100000 in
theorem c_tape8 (l : Launch) (D : va_G) (k : Nat → ClassId) (q : Nat → Nat) (f : Nat → Int32) (x : Int32) : WD (σ := (Nat → Int32)) l yX4_putOnTape cX4_putOnTape 3 none 0 0 0 D k [.ref (q 5), .int x] [((q 5), .inr (4, [.ref (q 130), .ref (q 131), .int 8, .int 0, .int 0, .int 0, .int 0, .int 0, .int 0, .long 0, .int (-1), .int (-1)])), ((q 130), .inl (k 0, 900, .inl f))] (fun _ => none) (fun _ => True) (fun g => [((q 5), .inr (4, [.ref (q 130), .ref (q 131), .int 12, .int 0, .int 0, .int 0, .int 0, .int 0, .int 0, .long 0, .int (-1), .int (-1)])), ((q 130), .inl (k 0, 900, .inl g))]) := by
  refine MW (by decide) (Nat.le_of_ble_eq_true rfl) (fun p e s m below meth c ls A hx hb hml hr hlocks hin hts hown hKK hP hD hS hA hl => ?_)
  have hK := hKK.1
  have hl : lv_has ls 3 [(0, .ref (q 5)), (1, .int x)] := hl
  refine lv_bipush (v := 24) hx hb dX4_putOnTape_0 (by decide) ?_
  refine lv_istore_n (lv' := [(2, .int 24), (0, .ref (q 5)), (1, .int x)]) hx hb dX4_putOnTape_2 rfl hl (by decide) rfl (fun ls hl => ?_)
  refine lv_iload_n hx hb dX4_putOnTape_3 rfl (lv_at hl 0 rfl) ?_
  refine lv_if_lt (tgt := 36) hx hb dX4_putOnTape_4 (by decide) (fun c => absurd c (by decide)) (fun _ => ?_)
  refine lv_aload_n hx hb dX4_putOnTape_7 rfl (lv_at hl 1 rfl) ?_
  refine va_get (D := D) (ci := 4) (v := .ref (q 130)) (C := RX4) (T := TX4) (N := 12) hx hb hts iX4 hown hK hP 0 rfl rfl 0 (by decide) (hts _ qf_X4_9) (fun _ h => h) rfl dX4_putOnTape_8 ?_
  refine lv_aload_n hx hb dX4_putOnTape_11 rfl (lv_at hl 1 rfl) ?_
  refine va_get (D := D) (ci := 4) (v := .int 8) (C := RX4) (T := TX4) (N := 12) hx hb hts iX4 hown hK hP 0 rfl rfl 2 (by decide) (hts _ qf_X4_42) (fun _ h => h) rfl dX4_putOnTape_12 ?_
  refine lv_iload_n hx hb dX4_putOnTape_15 rfl (lv_at hl 2 rfl) ?_
  refine lv_iload_n hx hb dX4_putOnTape_16 rfl (lv_at hl 0 rfl) ?_
  refine lv_ishr hx hb dX4_putOnTape_17 ?_
  refine lv_topi (fun x_1 ex_1 => ?_)
  refine lv_i2b (v := x_1.toInt8.toInt32) hx hb dX4_putOnTape_18 rfl ?_
  refine va_bast hx hb hK hP hD hS 1 0 rfl rfl (xin 8 900 rfl (by decide) (by decide)) dX4_putOnTape_19 (fun H locs hP hD hS => ?_)
  have hP : va_P D vwCl [((q 5), .inr (4, [.ref (q 130), .ref (q 131), .int 8, .int 0, .int 0, .int 0, .int 0, .int 0, .int 0, .long 0, .int (-1), .int (-1)])), ((q 130), .inl (k 0, 900, .inl (upd f (8 : Int32).toNatClampNeg (vp_nar .byte x_1.toInt8.toInt32))))] H := hP
  have hD : va_D A [((q 5), .inr (4, [.ref (q 130), .ref (q 131), .int 8, .int 0, .int 0, .int 0, .int 0, .int 0, .int 0, .long 0, .int (-1), .int (-1)])), ((q 130), .inl (k 0, 900, .inl (upd f (8 : Int32).toNatClampNeg (vp_nar .byte x_1.toInt8.toInt32))))] := hD
  refine lv_aload_n hx hb dX4_putOnTape_20 rfl (lv_at hl 1 rfl) ?_
  refine lv_dup hx hb dX4_putOnTape_21 rfl ?_
  refine va_get (D := D) (ci := 4) (v := .int 8) (C := RX4) (T := TX4) (N := 12) hx hb hts iX4 hown hK hP 0 rfl rfl 2 (by decide) (hts _ qf_X4_42) (fun _ h => h) rfl dX4_putOnTape_22 ?_
  refine lv_iconst (v := 1) hx hb dX4_putOnTape_25 (by decide) ?_
  refine lv_iadd hx hb dX4_putOnTape_26 ?_
  refine lv_topi (fun x_2 ex_2 => ?_)
  obtain rfl : x_2 = 9 := ex_2.trans (by decide +kernel)
  refine va_put (D := D) (ci := 4) (v := .int 9) (ty := .int) (C := RX4) (T := TX4) (N := 12) hx hb hts iX4 tyX4 tyX4_ok nmX4 hown hK hP hD hS 0 rfl rfl 2 (by decide) (hts _ qf_X4_42) (fun _ h => h) rfl (by decide +kernel) rfl rfl (Nat.le_of_ble_eq_true rfl) dX4_putOnTape_27 (fun H locs hP hD hS => ?_)
  have hP : va_P D vwCl [((q 5), .inr (4, [.ref (q 130), .ref (q 131), .int 9, .int 0, .int 0, .int 0, .int 0, .int 0, .int 0, .long 0, .int (-1), .int (-1)])), ((q 130), .inl (k 0, 900, .inl (upd f (8 : Int32).toNatClampNeg (vp_nar .byte x_1.toInt8.toInt32))))] H := hP
  have hD : va_D A [((q 5), .inr (4, [.ref (q 130), .ref (q 131), .int 9, .int 0, .int 0, .int 0, .int 0, .int 0, .int 0, .long 0, .int (-1), .int (-1)])), ((q 130), .inl (k 0, 900, .inl (upd f (8 : Int32).toNatClampNeg (vp_nar .byte x_1.toInt8.toInt32))))] := hD
  refine lv_iinc (v := 16) (lv' := [(2, .int 16), (0, .ref (q 5)), (1, .int x)]) hx hb dX4_putOnTape_30 hl (k := 0) rfl (by decide +kernel) (by decide) rfl (fun ls hl => ?_)
  refine lv_goto (tgt := 3) hx hb dX4_putOnTape_33 (by decide) ?_
  refine lv_iload_n hx hb dX4_putOnTape_3 rfl (lv_at hl 0 rfl) ?_
  refine lv_if_lt (tgt := 36) hx hb dX4_putOnTape_4 (by decide) (fun c => absurd c (by decide)) (fun _ => ?_)
  refine lv_aload_n hx hb dX4_putOnTape_7 rfl (lv_at hl 1 rfl) ?_
  refine va_get (D := D) (ci := 4) (v := .ref (q 130)) (C := RX4) (T := TX4) (N := 12) hx hb hts iX4 hown hK hP 0 rfl rfl 0 (by decide) (hts _ qf_X4_9) (fun _ h => h) rfl dX4_putOnTape_8 ?_
  refine lv_aload_n hx hb dX4_putOnTape_11 rfl (lv_at hl 1 rfl) ?_
  refine va_get (D := D) (ci := 4) (v := .int 9) (C := RX4) (T := TX4) (N := 12) hx hb hts iX4 hown hK hP 0 rfl rfl 2 (by decide) (hts _ qf_X4_42) (fun _ h => h) rfl dX4_putOnTape_12 ?_
  refine lv_iload_n hx hb dX4_putOnTape_15 rfl (lv_at hl 2 rfl) ?_
  refine lv_iload_n hx hb dX4_putOnTape_16 rfl (lv_at hl 0 rfl) ?_
  refine lv_ishr hx hb dX4_putOnTape_17 ?_
  refine lv_topi (fun x_3 ex_3 => ?_)
  refine lv_i2b (v := x_3.toInt8.toInt32) hx hb dX4_putOnTape_18 rfl ?_
  refine va_bast hx hb hK hP hD hS 1 0 rfl rfl (xin 9 900 rfl (by decide) (by decide)) dX4_putOnTape_19 (fun H locs hP hD hS => ?_)
  have hP : va_P D vwCl [((q 5), .inr (4, [.ref (q 130), .ref (q 131), .int 9, .int 0, .int 0, .int 0, .int 0, .int 0, .int 0, .long 0, .int (-1), .int (-1)])), ((q 130), .inl (k 0, 900, .inl (upd (upd f (8 : Int32).toNatClampNeg (vp_nar .byte x_1.toInt8.toInt32)) (9 : Int32).toNatClampNeg (vp_nar .byte x_3.toInt8.toInt32))))] H := hP
  have hD : va_D A [((q 5), .inr (4, [.ref (q 130), .ref (q 131), .int 9, .int 0, .int 0, .int 0, .int 0, .int 0, .int 0, .long 0, .int (-1), .int (-1)])), ((q 130), .inl (k 0, 900, .inl (upd (upd f (8 : Int32).toNatClampNeg (vp_nar .byte x_1.toInt8.toInt32)) (9 : Int32).toNatClampNeg (vp_nar .byte x_3.toInt8.toInt32))))] := hD
  refine lv_aload_n hx hb dX4_putOnTape_20 rfl (lv_at hl 1 rfl) ?_
  refine lv_dup hx hb dX4_putOnTape_21 rfl ?_
  refine va_get (D := D) (ci := 4) (v := .int 9) (C := RX4) (T := TX4) (N := 12) hx hb hts iX4 hown hK hP 0 rfl rfl 2 (by decide) (hts _ qf_X4_42) (fun _ h => h) rfl dX4_putOnTape_22 ?_
  refine lv_iconst (v := 1) hx hb dX4_putOnTape_25 (by decide) ?_
  refine lv_iadd hx hb dX4_putOnTape_26 ?_
  refine lv_topi (fun x_4 ex_4 => ?_)
  obtain rfl : x_4 = 10 := ex_4.trans (by decide +kernel)
  refine va_put (D := D) (ci := 4) (v := .int 10) (ty := .int) (C := RX4) (T := TX4) (N := 12) hx hb hts iX4 tyX4 tyX4_ok nmX4 hown hK hP hD hS 0 rfl rfl 2 (by decide) (hts _ qf_X4_42) (fun _ h => h) rfl (by decide +kernel) rfl rfl (Nat.le_of_ble_eq_true rfl) dX4_putOnTape_27 (fun H locs hP hD hS => ?_)
  have hP : va_P D vwCl [((q 5), .inr (4, [.ref (q 130), .ref (q 131), .int 10, .int 0, .int 0, .int 0, .int 0, .int 0, .int 0, .long 0, .int (-1), .int (-1)])), ((q 130), .inl (k 0, 900, .inl (upd (upd f (8 : Int32).toNatClampNeg (vp_nar .byte x_1.toInt8.toInt32)) (9 : Int32).toNatClampNeg (vp_nar .byte x_3.toInt8.toInt32))))] H := hP
  have hD : va_D A [((q 5), .inr (4, [.ref (q 130), .ref (q 131), .int 10, .int 0, .int 0, .int 0, .int 0, .int 0, .int 0, .long 0, .int (-1), .int (-1)])), ((q 130), .inl (k 0, 900, .inl (upd (upd f (8 : Int32).toNatClampNeg (vp_nar .byte x_1.toInt8.toInt32)) (9 : Int32).toNatClampNeg (vp_nar .byte x_3.toInt8.toInt32))))] := hD
  refine lv_iinc (v := 8) (lv' := [(2, .int 8), (0, .ref (q 5)), (1, .int x)]) hx hb dX4_putOnTape_30 hl (k := 0) rfl (by decide +kernel) (by decide) rfl (fun ls hl => ?_)
  refine lv_goto (tgt := 3) hx hb dX4_putOnTape_33 (by decide) ?_
  refine lv_iload_n hx hb dX4_putOnTape_3 rfl (lv_at hl 0 rfl) ?_
  refine lv_if_lt (tgt := 36) hx hb dX4_putOnTape_4 (by decide) (fun c => absurd c (by decide)) (fun _ => ?_)
  refine lv_aload_n hx hb dX4_putOnTape_7 rfl (lv_at hl 1 rfl) ?_
  refine va_get (D := D) (ci := 4) (v := .ref (q 130)) (C := RX4) (T := TX4) (N := 12) hx hb hts iX4 hown hK hP 0 rfl rfl 0 (by decide) (hts _ qf_X4_9) (fun _ h => h) rfl dX4_putOnTape_8 ?_
  refine lv_aload_n hx hb dX4_putOnTape_11 rfl (lv_at hl 1 rfl) ?_
  refine va_get (D := D) (ci := 4) (v := .int 10) (C := RX4) (T := TX4) (N := 12) hx hb hts iX4 hown hK hP 0 rfl rfl 2 (by decide) (hts _ qf_X4_42) (fun _ h => h) rfl dX4_putOnTape_12 ?_
  refine lv_iload_n hx hb dX4_putOnTape_15 rfl (lv_at hl 2 rfl) ?_
  refine lv_iload_n hx hb dX4_putOnTape_16 rfl (lv_at hl 0 rfl) ?_
  refine lv_ishr hx hb dX4_putOnTape_17 ?_
  refine lv_topi (fun x_5 ex_5 => ?_)
  refine lv_i2b (v := x_5.toInt8.toInt32) hx hb dX4_putOnTape_18 rfl ?_
  refine va_bast hx hb hK hP hD hS 1 0 rfl rfl (xin 10 900 rfl (by decide) (by decide)) dX4_putOnTape_19 (fun H locs hP hD hS => ?_)
  have hP : va_P D vwCl [((q 5), .inr (4, [.ref (q 130), .ref (q 131), .int 10, .int 0, .int 0, .int 0, .int 0, .int 0, .int 0, .long 0, .int (-1), .int (-1)])), ((q 130), .inl (k 0, 900, .inl (upd (upd (upd f (8 : Int32).toNatClampNeg (vp_nar .byte x_1.toInt8.toInt32)) (9 : Int32).toNatClampNeg (vp_nar .byte x_3.toInt8.toInt32)) (10 : Int32).toNatClampNeg (vp_nar .byte x_5.toInt8.toInt32))))] H := hP
  have hD : va_D A [((q 5), .inr (4, [.ref (q 130), .ref (q 131), .int 10, .int 0, .int 0, .int 0, .int 0, .int 0, .int 0, .long 0, .int (-1), .int (-1)])), ((q 130), .inl (k 0, 900, .inl (upd (upd (upd f (8 : Int32).toNatClampNeg (vp_nar .byte x_1.toInt8.toInt32)) (9 : Int32).toNatClampNeg (vp_nar .byte x_3.toInt8.toInt32)) (10 : Int32).toNatClampNeg (vp_nar .byte x_5.toInt8.toInt32))))] := hD
  refine lv_aload_n hx hb dX4_putOnTape_20 rfl (lv_at hl 1 rfl) ?_
  refine lv_dup hx hb dX4_putOnTape_21 rfl ?_
  refine va_get (D := D) (ci := 4) (v := .int 10) (C := RX4) (T := TX4) (N := 12) hx hb hts iX4 hown hK hP 0 rfl rfl 2 (by decide) (hts _ qf_X4_42) (fun _ h => h) rfl dX4_putOnTape_22 ?_
  refine lv_iconst (v := 1) hx hb dX4_putOnTape_25 (by decide) ?_
  refine lv_iadd hx hb dX4_putOnTape_26 ?_
  refine lv_topi (fun x_6 ex_6 => ?_)
  obtain rfl : x_6 = 11 := ex_6.trans (by decide +kernel)
  refine va_put (D := D) (ci := 4) (v := .int 11) (ty := .int) (C := RX4) (T := TX4) (N := 12) hx hb hts iX4 tyX4 tyX4_ok nmX4 hown hK hP hD hS 0 rfl rfl 2 (by decide) (hts _ qf_X4_42) (fun _ h => h) rfl (by decide +kernel) rfl rfl (Nat.le_of_ble_eq_true rfl) dX4_putOnTape_27 (fun H locs hP hD hS => ?_)
  have hP : va_P D vwCl [((q 5), .inr (4, [.ref (q 130), .ref (q 131), .int 11, .int 0, .int 0, .int 0, .int 0, .int 0, .int 0, .long 0, .int (-1), .int (-1)])), ((q 130), .inl (k 0, 900, .inl (upd (upd (upd f (8 : Int32).toNatClampNeg (vp_nar .byte x_1.toInt8.toInt32)) (9 : Int32).toNatClampNeg (vp_nar .byte x_3.toInt8.toInt32)) (10 : Int32).toNatClampNeg (vp_nar .byte x_5.toInt8.toInt32))))] H := hP
  have hD : va_D A [((q 5), .inr (4, [.ref (q 130), .ref (q 131), .int 11, .int 0, .int 0, .int 0, .int 0, .int 0, .int 0, .long 0, .int (-1), .int (-1)])), ((q 130), .inl (k 0, 900, .inl (upd (upd (upd f (8 : Int32).toNatClampNeg (vp_nar .byte x_1.toInt8.toInt32)) (9 : Int32).toNatClampNeg (vp_nar .byte x_3.toInt8.toInt32)) (10 : Int32).toNatClampNeg (vp_nar .byte x_5.toInt8.toInt32))))] := hD
  refine lv_iinc (v := 0) (lv' := [(2, .int 0), (0, .ref (q 5)), (1, .int x)]) hx hb dX4_putOnTape_30 hl (k := 0) rfl (by decide +kernel) (by decide) rfl (fun ls hl => ?_)
  refine lv_goto (tgt := 3) hx hb dX4_putOnTape_33 (by decide) ?_
  refine lv_iload_n hx hb dX4_putOnTape_3 rfl (lv_at hl 0 rfl) ?_
  refine lv_if_lt (tgt := 36) hx hb dX4_putOnTape_4 (by decide) (fun c => absurd c (by decide)) (fun _ => ?_)
  refine lv_aload_n hx hb dX4_putOnTape_7 rfl (lv_at hl 1 rfl) ?_
  refine va_get (D := D) (ci := 4) (v := .ref (q 130)) (C := RX4) (T := TX4) (N := 12) hx hb hts iX4 hown hK hP 0 rfl rfl 0 (by decide) (hts _ qf_X4_9) (fun _ h => h) rfl dX4_putOnTape_8 ?_
  refine lv_aload_n hx hb dX4_putOnTape_11 rfl (lv_at hl 1 rfl) ?_
  refine va_get (D := D) (ci := 4) (v := .int 11) (C := RX4) (T := TX4) (N := 12) hx hb hts iX4 hown hK hP 0 rfl rfl 2 (by decide) (hts _ qf_X4_42) (fun _ h => h) rfl dX4_putOnTape_12 ?_
  refine lv_iload_n hx hb dX4_putOnTape_15 rfl (lv_at hl 2 rfl) ?_
  refine lv_iload_n hx hb dX4_putOnTape_16 rfl (lv_at hl 0 rfl) ?_
  refine lv_ishr hx hb dX4_putOnTape_17 ?_
  refine lv_topi (fun x_7 ex_7 => ?_)
  refine lv_i2b (v := x_7.toInt8.toInt32) hx hb dX4_putOnTape_18 rfl ?_
  refine va_bast hx hb hK hP hD hS 1 0 rfl rfl (xin 11 900 rfl (by decide) (by decide)) dX4_putOnTape_19 (fun H locs hP hD hS => ?_)
  have hP : va_P D vwCl [((q 5), .inr (4, [.ref (q 130), .ref (q 131), .int 11, .int 0, .int 0, .int 0, .int 0, .int 0, .int 0, .long 0, .int (-1), .int (-1)])), ((q 130), .inl (k 0, 900, .inl (upd (upd (upd (upd f (8 : Int32).toNatClampNeg (vp_nar .byte x_1.toInt8.toInt32)) (9 : Int32).toNatClampNeg (vp_nar .byte x_3.toInt8.toInt32)) (10 : Int32).toNatClampNeg (vp_nar .byte x_5.toInt8.toInt32)) (11 : Int32).toNatClampNeg (vp_nar .byte x_7.toInt8.toInt32))))] H := hP
  have hD : va_D A [((q 5), .inr (4, [.ref (q 130), .ref (q 131), .int 11, .int 0, .int 0, .int 0, .int 0, .int 0, .int 0, .long 0, .int (-1), .int (-1)])), ((q 130), .inl (k 0, 900, .inl (upd (upd (upd (upd f (8 : Int32).toNatClampNeg (vp_nar .byte x_1.toInt8.toInt32)) (9 : Int32).toNatClampNeg (vp_nar .byte x_3.toInt8.toInt32)) (10 : Int32).toNatClampNeg (vp_nar .byte x_5.toInt8.toInt32)) (11 : Int32).toNatClampNeg (vp_nar .byte x_7.toInt8.toInt32))))] := hD
  refine lv_aload_n hx hb dX4_putOnTape_20 rfl (lv_at hl 1 rfl) ?_
  refine lv_dup hx hb dX4_putOnTape_21 rfl ?_
  refine va_get (D := D) (ci := 4) (v := .int 11) (C := RX4) (T := TX4) (N := 12) hx hb hts iX4 hown hK hP 0 rfl rfl 2 (by decide) (hts _ qf_X4_42) (fun _ h => h) rfl dX4_putOnTape_22 ?_
  refine lv_iconst (v := 1) hx hb dX4_putOnTape_25 (by decide) ?_
  refine lv_iadd hx hb dX4_putOnTape_26 ?_
  refine lv_topi (fun x_8 ex_8 => ?_)
  obtain rfl : x_8 = 12 := ex_8.trans (by decide +kernel)
  refine va_put (D := D) (ci := 4) (v := .int 12) (ty := .int) (C := RX4) (T := TX4) (N := 12) hx hb hts iX4 tyX4 tyX4_ok nmX4 hown hK hP hD hS 0 rfl rfl 2 (by decide) (hts _ qf_X4_42) (fun _ h => h) rfl (by decide +kernel) rfl rfl (Nat.le_of_ble_eq_true rfl) dX4_putOnTape_27 (fun H locs hP hD hS => ?_)
  have hP : va_P D vwCl [((q 5), .inr (4, [.ref (q 130), .ref (q 131), .int 12, .int 0, .int 0, .int 0, .int 0, .int 0, .int 0, .long 0, .int (-1), .int (-1)])), ((q 130), .inl (k 0, 900, .inl (upd (upd (upd (upd f (8 : Int32).toNatClampNeg (vp_nar .byte x_1.toInt8.toInt32)) (9 : Int32).toNatClampNeg (vp_nar .byte x_3.toInt8.toInt32)) (10 : Int32).toNatClampNeg (vp_nar .byte x_5.toInt8.toInt32)) (11 : Int32).toNatClampNeg (vp_nar .byte x_7.toInt8.toInt32))))] H := hP
  have hD : va_D A [((q 5), .inr (4, [.ref (q 130), .ref (q 131), .int 12, .int 0, .int 0, .int 0, .int 0, .int 0, .int 0, .long 0, .int (-1), .int (-1)])), ((q 130), .inl (k 0, 900, .inl (upd (upd (upd (upd f (8 : Int32).toNatClampNeg (vp_nar .byte x_1.toInt8.toInt32)) (9 : Int32).toNatClampNeg (vp_nar .byte x_3.toInt8.toInt32)) (10 : Int32).toNatClampNeg (vp_nar .byte x_5.toInt8.toInt32)) (11 : Int32).toNatClampNeg (vp_nar .byte x_7.toInt8.toInt32))))] := hD
  refine lv_iinc (v := (-8)) (lv' := [(2, .int (-8)), (0, .ref (q 5)), (1, .int x)]) hx hb dX4_putOnTape_30 hl (k := 0) rfl (by decide +kernel) (by decide) rfl (fun ls hl => ?_)
  refine lv_goto (tgt := 3) hx hb dX4_putOnTape_33 (by decide) ?_
  refine lv_iload_n hx hb dX4_putOnTape_3 rfl (lv_at hl 0 rfl) ?_
  refine lv_if_lt (tgt := 36) hx hb dX4_putOnTape_4 (by decide) (fun _ => ?_) (fun c => absurd (by decide) c)
  exact EWv hx hb hr hlocks hS (upd (upd (upd (upd f (8 : Int32).toNatClampNeg (vp_nar .byte x_1.toInt8.toInt32)) (9 : Int32).toNatClampNeg (vp_nar .byte x_3.toInt8.toInt32)) (10 : Int32).toNatClampNeg (vp_nar .byte x_5.toInt8.toInt32)) (11 : Int32).toNatClampNeg (vp_nar .byte x_7.toInt8.toInt32)) rfl trivial hP hD dX4_putOnTape_36
set_option maxHeartbeats 4000000 in
set_option maxRecDepth 100000 in
theorem c_tape12 (l : Launch) (D : va_G) (k : Nat → ClassId) (q : Nat → Nat) (f : Nat → Int32) (x : Int32) : WD (σ := (Nat → Int32)) l yX4_putOnTape cX4_putOnTape 3 none 0 0 0 D k [.ref (q 5), .int x] [((q 5), .inr (4, [.ref (q 130), .ref (q 131), .int 12, .int 0, .int 0, .int 0, .int 0, .int 0, .int 0, .long 0, .int (-1), .int (-1)])), ((q 130), .inl (k 0, 900, .inl f))] (fun _ => none) (fun _ => True) (fun g => [((q 5), .inr (4, [.ref (q 130), .ref (q 131), .int 16, .int 0, .int 0, .int 0, .int 0, .int 0, .int 0, .long 0, .int (-1), .int (-1)])), ((q 130), .inl (k 0, 900, .inl g))]) := by
  refine MW (by decide) (Nat.le_of_ble_eq_true rfl) (fun p e s m below meth c ls A hx hb hml hr hlocks hin hts hown hKK hP hD hS hA hl => ?_)
  have hK := hKK.1
  have hl : lv_has ls 3 [(0, .ref (q 5)), (1, .int x)] := hl
  refine lv_bipush (v := 24) hx hb dX4_putOnTape_0 (by decide) ?_
  refine lv_istore_n (lv' := [(2, .int 24), (0, .ref (q 5)), (1, .int x)]) hx hb dX4_putOnTape_2 rfl hl (by decide) rfl (fun ls hl => ?_)
  refine lv_iload_n hx hb dX4_putOnTape_3 rfl (lv_at hl 0 rfl) ?_
  refine lv_if_lt (tgt := 36) hx hb dX4_putOnTape_4 (by decide) (fun c => absurd c (by decide)) (fun _ => ?_)
  refine lv_aload_n hx hb dX4_putOnTape_7 rfl (lv_at hl 1 rfl) ?_
  refine va_get (D := D) (ci := 4) (v := .ref (q 130)) (C := RX4) (T := TX4) (N := 12) hx hb hts iX4 hown hK hP 0 rfl rfl 0 (by decide) (hts _ qf_X4_9) (fun _ h => h) rfl dX4_putOnTape_8 ?_
  refine lv_aload_n hx hb dX4_putOnTape_11 rfl (lv_at hl 1 rfl) ?_
  refine va_get (D := D) (ci := 4) (v := .int 12) (C := RX4) (T := TX4) (N := 12) hx hb hts iX4 hown hK hP 0 rfl rfl 2 (by decide) (hts _ qf_X4_42) (fun _ h => h) rfl dX4_putOnTape_12 ?_
  refine lv_iload_n hx hb dX4_putOnTape_15 rfl (lv_at hl 2 rfl) ?_
  refine lv_iload_n hx hb dX4_putOnTape_16 rfl (lv_at hl 0 rfl) ?_
  refine lv_ishr hx hb dX4_putOnTape_17 ?_
  refine lv_topi (fun x_1 ex_1 => ?_)
  refine lv_i2b (v := x_1.toInt8.toInt32) hx hb dX4_putOnTape_18 rfl ?_
  refine va_bast hx hb hK hP hD hS 1 0 rfl rfl (xin 12 900 rfl (by decide) (by decide)) dX4_putOnTape_19 (fun H locs hP hD hS => ?_)
  have hP : va_P D vwCl [((q 5), .inr (4, [.ref (q 130), .ref (q 131), .int 12, .int 0, .int 0, .int 0, .int 0, .int 0, .int 0, .long 0, .int (-1), .int (-1)])), ((q 130), .inl (k 0, 900, .inl (upd f (12 : Int32).toNatClampNeg (vp_nar .byte x_1.toInt8.toInt32))))] H := hP
  have hD : va_D A [((q 5), .inr (4, [.ref (q 130), .ref (q 131), .int 12, .int 0, .int 0, .int 0, .int 0, .int 0, .int 0, .long 0, .int (-1), .int (-1)])), ((q 130), .inl (k 0, 900, .inl (upd f (12 : Int32).toNatClampNeg (vp_nar .byte x_1.toInt8.toInt32))))] := hD
  refine lv_aload_n hx hb dX4_putOnTape_20 rfl (lv_at hl 1 rfl) ?_
  refine lv_dup hx hb dX4_putOnTape_21 rfl ?_
  refine va_get (D := D) (ci := 4) (v := .int 12) (C := RX4) (T := TX4) (N := 12) hx hb hts iX4 hown hK hP 0 rfl rfl 2 (by decide) (hts _ qf_X4_42) (fun _ h => h) rfl dX4_putOnTape_22 ?_
  refine lv_iconst (v := 1) hx hb dX4_putOnTape_25 (by decide) ?_
  refine lv_iadd hx hb dX4_putOnTape_26 ?_
  refine lv_topi (fun x_2 ex_2 => ?_)
  obtain rfl : x_2 = 13 := ex_2.trans (by decide +kernel)
  refine va_put (D := D) (ci := 4) (v := .int 13) (ty := .int) (C := RX4) (T := TX4) (N := 12) hx hb hts iX4 tyX4 tyX4_ok nmX4 hown hK hP hD hS 0 rfl rfl 2 (by decide) (hts _ qf_X4_42) (fun _ h => h) rfl (by decide +kernel) rfl rfl (Nat.le_of_ble_eq_true rfl) dX4_putOnTape_27 (fun H locs hP hD hS => ?_)
  have hP : va_P D vwCl [((q 5), .inr (4, [.ref (q 130), .ref (q 131), .int 13, .int 0, .int 0, .int 0, .int 0, .int 0, .int 0, .long 0, .int (-1), .int (-1)])), ((q 130), .inl (k 0, 900, .inl (upd f (12 : Int32).toNatClampNeg (vp_nar .byte x_1.toInt8.toInt32))))] H := hP
  have hD : va_D A [((q 5), .inr (4, [.ref (q 130), .ref (q 131), .int 13, .int 0, .int 0, .int 0, .int 0, .int 0, .int 0, .long 0, .int (-1), .int (-1)])), ((q 130), .inl (k 0, 900, .inl (upd f (12 : Int32).toNatClampNeg (vp_nar .byte x_1.toInt8.toInt32))))] := hD
  refine lv_iinc (v := 16) (lv' := [(2, .int 16), (0, .ref (q 5)), (1, .int x)]) hx hb dX4_putOnTape_30 hl (k := 0) rfl (by decide +kernel) (by decide) rfl (fun ls hl => ?_)
  refine lv_goto (tgt := 3) hx hb dX4_putOnTape_33 (by decide) ?_
  refine lv_iload_n hx hb dX4_putOnTape_3 rfl (lv_at hl 0 rfl) ?_
  refine lv_if_lt (tgt := 36) hx hb dX4_putOnTape_4 (by decide) (fun c => absurd c (by decide)) (fun _ => ?_)
  refine lv_aload_n hx hb dX4_putOnTape_7 rfl (lv_at hl 1 rfl) ?_
  refine va_get (D := D) (ci := 4) (v := .ref (q 130)) (C := RX4) (T := TX4) (N := 12) hx hb hts iX4 hown hK hP 0 rfl rfl 0 (by decide) (hts _ qf_X4_9) (fun _ h => h) rfl dX4_putOnTape_8 ?_
  refine lv_aload_n hx hb dX4_putOnTape_11 rfl (lv_at hl 1 rfl) ?_
  refine va_get (D := D) (ci := 4) (v := .int 13) (C := RX4) (T := TX4) (N := 12) hx hb hts iX4 hown hK hP 0 rfl rfl 2 (by decide) (hts _ qf_X4_42) (fun _ h => h) rfl dX4_putOnTape_12 ?_
  refine lv_iload_n hx hb dX4_putOnTape_15 rfl (lv_at hl 2 rfl) ?_
  refine lv_iload_n hx hb dX4_putOnTape_16 rfl (lv_at hl 0 rfl) ?_
  refine lv_ishr hx hb dX4_putOnTape_17 ?_
  refine lv_topi (fun x_3 ex_3 => ?_)
  refine lv_i2b (v := x_3.toInt8.toInt32) hx hb dX4_putOnTape_18 rfl ?_
  refine va_bast hx hb hK hP hD hS 1 0 rfl rfl (xin 13 900 rfl (by decide) (by decide)) dX4_putOnTape_19 (fun H locs hP hD hS => ?_)
  have hP : va_P D vwCl [((q 5), .inr (4, [.ref (q 130), .ref (q 131), .int 13, .int 0, .int 0, .int 0, .int 0, .int 0, .int 0, .long 0, .int (-1), .int (-1)])), ((q 130), .inl (k 0, 900, .inl (upd (upd f (12 : Int32).toNatClampNeg (vp_nar .byte x_1.toInt8.toInt32)) (13 : Int32).toNatClampNeg (vp_nar .byte x_3.toInt8.toInt32))))] H := hP
  have hD : va_D A [((q 5), .inr (4, [.ref (q 130), .ref (q 131), .int 13, .int 0, .int 0, .int 0, .int 0, .int 0, .int 0, .long 0, .int (-1), .int (-1)])), ((q 130), .inl (k 0, 900, .inl (upd (upd f (12 : Int32).toNatClampNeg (vp_nar .byte x_1.toInt8.toInt32)) (13 : Int32).toNatClampNeg (vp_nar .byte x_3.toInt8.toInt32))))] := hD
  refine lv_aload_n hx hb dX4_putOnTape_20 rfl (lv_at hl 1 rfl) ?_
  refine lv_dup hx hb dX4_putOnTape_21 rfl ?_
  refine va_get (D := D) (ci := 4) (v := .int 13) (C := RX4) (T := TX4) (N := 12) hx hb hts iX4 hown hK hP 0 rfl rfl 2 (by decide) (hts _ qf_X4_42) (fun _ h => h) rfl dX4_putOnTape_22 ?_
  refine lv_iconst (v := 1) hx hb dX4_putOnTape_25 (by decide) ?_
  refine lv_iadd hx hb dX4_putOnTape_26 ?_
  refine lv_topi (fun x_4 ex_4 => ?_)
  obtain rfl : x_4 = 14 := ex_4.trans (by decide +kernel)
  refine va_put (D := D) (ci := 4) (v := .int 14) (ty := .int) (C := RX4) (T := TX4) (N := 12) hx hb hts iX4 tyX4 tyX4_ok nmX4 hown hK hP hD hS 0 rfl rfl 2 (by decide) (hts _ qf_X4_42) (fun _ h => h) rfl (by decide +kernel) rfl rfl (Nat.le_of_ble_eq_true rfl) dX4_putOnTape_27 (fun H locs hP hD hS => ?_)
  have hP : va_P D vwCl [((q 5), .inr (4, [.ref (q 130), .ref (q 131), .int 14, .int 0, .int 0, .int 0, .int 0, .int 0, .int 0, .long 0, .int (-1), .int (-1)])), ((q 130), .inl (k 0, 900, .inl (upd (upd f (12 : Int32).toNatClampNeg (vp_nar .byte x_1.toInt8.toInt32)) (13 : Int32).toNatClampNeg (vp_nar .byte x_3.toInt8.toInt32))))] H := hP
  have hD : va_D A [((q 5), .inr (4, [.ref (q 130), .ref (q 131), .int 14, .int 0, .int 0, .int 0, .int 0, .int 0, .int 0, .long 0, .int (-1), .int (-1)])), ((q 130), .inl (k 0, 900, .inl (upd (upd f (12 : Int32).toNatClampNeg (vp_nar .byte x_1.toInt8.toInt32)) (13 : Int32).toNatClampNeg (vp_nar .byte x_3.toInt8.toInt32))))] := hD
  refine lv_iinc (v := 8) (lv' := [(2, .int 8), (0, .ref (q 5)), (1, .int x)]) hx hb dX4_putOnTape_30 hl (k := 0) rfl (by decide +kernel) (by decide) rfl (fun ls hl => ?_)
  refine lv_goto (tgt := 3) hx hb dX4_putOnTape_33 (by decide) ?_
  refine lv_iload_n hx hb dX4_putOnTape_3 rfl (lv_at hl 0 rfl) ?_
  refine lv_if_lt (tgt := 36) hx hb dX4_putOnTape_4 (by decide) (fun c => absurd c (by decide)) (fun _ => ?_)
  refine lv_aload_n hx hb dX4_putOnTape_7 rfl (lv_at hl 1 rfl) ?_
  refine va_get (D := D) (ci := 4) (v := .ref (q 130)) (C := RX4) (T := TX4) (N := 12) hx hb hts iX4 hown hK hP 0 rfl rfl 0 (by decide) (hts _ qf_X4_9) (fun _ h => h) rfl dX4_putOnTape_8 ?_
  refine lv_aload_n hx hb dX4_putOnTape_11 rfl (lv_at hl 1 rfl) ?_
  refine va_get (D := D) (ci := 4) (v := .int 14) (C := RX4) (T := TX4) (N := 12) hx hb hts iX4 hown hK hP 0 rfl rfl 2 (by decide) (hts _ qf_X4_42) (fun _ h => h) rfl dX4_putOnTape_12 ?_
  refine lv_iload_n hx hb dX4_putOnTape_15 rfl (lv_at hl 2 rfl) ?_
  refine lv_iload_n hx hb dX4_putOnTape_16 rfl (lv_at hl 0 rfl) ?_
  refine lv_ishr hx hb dX4_putOnTape_17 ?_
  refine lv_topi (fun x_5 ex_5 => ?_)
  refine lv_i2b (v := x_5.toInt8.toInt32) hx hb dX4_putOnTape_18 rfl ?_
  refine va_bast hx hb hK hP hD hS 1 0 rfl rfl (xin 14 900 rfl (by decide) (by decide)) dX4_putOnTape_19 (fun H locs hP hD hS => ?_)
  have hP : va_P D vwCl [((q 5), .inr (4, [.ref (q 130), .ref (q 131), .int 14, .int 0, .int 0, .int 0, .int 0, .int 0, .int 0, .long 0, .int (-1), .int (-1)])), ((q 130), .inl (k 0, 900, .inl (upd (upd (upd f (12 : Int32).toNatClampNeg (vp_nar .byte x_1.toInt8.toInt32)) (13 : Int32).toNatClampNeg (vp_nar .byte x_3.toInt8.toInt32)) (14 : Int32).toNatClampNeg (vp_nar .byte x_5.toInt8.toInt32))))] H := hP
  have hD : va_D A [((q 5), .inr (4, [.ref (q 130), .ref (q 131), .int 14, .int 0, .int 0, .int 0, .int 0, .int 0, .int 0, .long 0, .int (-1), .int (-1)])), ((q 130), .inl (k 0, 900, .inl (upd (upd (upd f (12 : Int32).toNatClampNeg (vp_nar .byte x_1.toInt8.toInt32)) (13 : Int32).toNatClampNeg (vp_nar .byte x_3.toInt8.toInt32)) (14 : Int32).toNatClampNeg (vp_nar .byte x_5.toInt8.toInt32))))] := hD
  refine lv_aload_n hx hb dX4_putOnTape_20 rfl (lv_at hl 1 rfl) ?_
  refine lv_dup hx hb dX4_putOnTape_21 rfl ?_
  refine va_get (D := D) (ci := 4) (v := .int 14) (C := RX4) (T := TX4) (N := 12) hx hb hts iX4 hown hK hP 0 rfl rfl 2 (by decide) (hts _ qf_X4_42) (fun _ h => h) rfl dX4_putOnTape_22 ?_
  refine lv_iconst (v := 1) hx hb dX4_putOnTape_25 (by decide) ?_
  refine lv_iadd hx hb dX4_putOnTape_26 ?_
  refine lv_topi (fun x_6 ex_6 => ?_)
  obtain rfl : x_6 = 15 := ex_6.trans (by decide +kernel)
  refine va_put (D := D) (ci := 4) (v := .int 15) (ty := .int) (C := RX4) (T := TX4) (N := 12) hx hb hts iX4 tyX4 tyX4_ok nmX4 hown hK hP hD hS 0 rfl rfl 2 (by decide) (hts _ qf_X4_42) (fun _ h => h) rfl (by decide +kernel) rfl rfl (Nat.le_of_ble_eq_true rfl) dX4_putOnTape_27 (fun H locs hP hD hS => ?_)
  have hP : va_P D vwCl [((q 5), .inr (4, [.ref (q 130), .ref (q 131), .int 15, .int 0, .int 0, .int 0, .int 0, .int 0, .int 0, .long 0, .int (-1), .int (-1)])), ((q 130), .inl (k 0, 900, .inl (upd (upd (upd f (12 : Int32).toNatClampNeg (vp_nar .byte x_1.toInt8.toInt32)) (13 : Int32).toNatClampNeg (vp_nar .byte x_3.toInt8.toInt32)) (14 : Int32).toNatClampNeg (vp_nar .byte x_5.toInt8.toInt32))))] H := hP
  have hD : va_D A [((q 5), .inr (4, [.ref (q 130), .ref (q 131), .int 15, .int 0, .int 0, .int 0, .int 0, .int 0, .int 0, .long 0, .int (-1), .int (-1)])), ((q 130), .inl (k 0, 900, .inl (upd (upd (upd f (12 : Int32).toNatClampNeg (vp_nar .byte x_1.toInt8.toInt32)) (13 : Int32).toNatClampNeg (vp_nar .byte x_3.toInt8.toInt32)) (14 : Int32).toNatClampNeg (vp_nar .byte x_5.toInt8.toInt32))))] := hD
  refine lv_iinc (v := 0) (lv' := [(2, .int 0), (0, .ref (q 5)), (1, .int x)]) hx hb dX4_putOnTape_30 hl (k := 0) rfl (by decide +kernel) (by decide) rfl (fun ls hl => ?_)
  refine lv_goto (tgt := 3) hx hb dX4_putOnTape_33 (by decide) ?_
  refine lv_iload_n hx hb dX4_putOnTape_3 rfl (lv_at hl 0 rfl) ?_
  refine lv_if_lt (tgt := 36) hx hb dX4_putOnTape_4 (by decide) (fun c => absurd c (by decide)) (fun _ => ?_)
  refine lv_aload_n hx hb dX4_putOnTape_7 rfl (lv_at hl 1 rfl) ?_
  refine va_get (D := D) (ci := 4) (v := .ref (q 130)) (C := RX4) (T := TX4) (N := 12) hx hb hts iX4 hown hK hP 0 rfl rfl 0 (by decide) (hts _ qf_X4_9) (fun _ h => h) rfl dX4_putOnTape_8 ?_
  refine lv_aload_n hx hb dX4_putOnTape_11 rfl (lv_at hl 1 rfl) ?_
  refine va_get (D := D) (ci := 4) (v := .int 15) (C := RX4) (T := TX4) (N := 12) hx hb hts iX4 hown hK hP 0 rfl rfl 2 (by decide) (hts _ qf_X4_42) (fun _ h => h) rfl dX4_putOnTape_12 ?_
  refine lv_iload_n hx hb dX4_putOnTape_15 rfl (lv_at hl 2 rfl) ?_
  refine lv_iload_n hx hb dX4_putOnTape_16 rfl (lv_at hl 0 rfl) ?_
  refine lv_ishr hx hb dX4_putOnTape_17 ?_
  refine lv_topi (fun x_7 ex_7 => ?_)
  refine lv_i2b (v := x_7.toInt8.toInt32) hx hb dX4_putOnTape_18 rfl ?_
  refine va_bast hx hb hK hP hD hS 1 0 rfl rfl (xin 15 900 rfl (by decide) (by decide)) dX4_putOnTape_19 (fun H locs hP hD hS => ?_)
  have hP : va_P D vwCl [((q 5), .inr (4, [.ref (q 130), .ref (q 131), .int 15, .int 0, .int 0, .int 0, .int 0, .int 0, .int 0, .long 0, .int (-1), .int (-1)])), ((q 130), .inl (k 0, 900, .inl (upd (upd (upd (upd f (12 : Int32).toNatClampNeg (vp_nar .byte x_1.toInt8.toInt32)) (13 : Int32).toNatClampNeg (vp_nar .byte x_3.toInt8.toInt32)) (14 : Int32).toNatClampNeg (vp_nar .byte x_5.toInt8.toInt32)) (15 : Int32).toNatClampNeg (vp_nar .byte x_7.toInt8.toInt32))))] H := hP
  have hD : va_D A [((q 5), .inr (4, [.ref (q 130), .ref (q 131), .int 15, .int 0, .int 0, .int 0, .int 0, .int 0, .int 0, .long 0, .int (-1), .int (-1)])), ((q 130), .inl (k 0, 900, .inl (upd (upd (upd (upd f (12 : Int32).toNatClampNeg (vp_nar .byte x_1.toInt8.toInt32)) (13 : Int32).toNatClampNeg (vp_nar .byte x_3.toInt8.toInt32)) (14 : Int32).toNatClampNeg (vp_nar .byte x_5.toInt8.toInt32)) (15 : Int32).toNatClampNeg (vp_nar .byte x_7.toInt8.toInt32))))] := hD
  refine lv_aload_n hx hb dX4_putOnTape_20 rfl (lv_at hl 1 rfl) ?_
  refine lv_dup hx hb dX4_putOnTape_21 rfl ?_
  refine va_get (D := D) (ci := 4) (v := .int 15) (C := RX4) (T := TX4) (N := 12) hx hb hts iX4 hown hK hP 0 rfl rfl 2 (by decide) (hts _ qf_X4_42) (fun _ h => h) rfl dX4_putOnTape_22 ?_
  refine lv_iconst (v := 1) hx hb dX4_putOnTape_25 (by decide) ?_
  refine lv_iadd hx hb dX4_putOnTape_26 ?_
  refine lv_topi (fun x_8 ex_8 => ?_)
  obtain rfl : x_8 = 16 := ex_8.trans (by decide +kernel)
  refine va_put (D := D) (ci := 4) (v := .int 16) (ty := .int) (C := RX4) (T := TX4) (N := 12) hx hb hts iX4 tyX4 tyX4_ok nmX4 hown hK hP hD hS 0 rfl rfl 2 (by decide) (hts _ qf_X4_42) (fun _ h => h) rfl (by decide +kernel) rfl rfl (Nat.le_of_ble_eq_true rfl) dX4_putOnTape_27 (fun H locs hP hD hS => ?_)
  have hP : va_P D vwCl [((q 5), .inr (4, [.ref (q 130), .ref (q 131), .int 16, .int 0, .int 0, .int 0, .int 0, .int 0, .int 0, .long 0, .int (-1), .int (-1)])), ((q 130), .inl (k 0, 900, .inl (upd (upd (upd (upd f (12 : Int32).toNatClampNeg (vp_nar .byte x_1.toInt8.toInt32)) (13 : Int32).toNatClampNeg (vp_nar .byte x_3.toInt8.toInt32)) (14 : Int32).toNatClampNeg (vp_nar .byte x_5.toInt8.toInt32)) (15 : Int32).toNatClampNeg (vp_nar .byte x_7.toInt8.toInt32))))] H := hP
  have hD : va_D A [((q 5), .inr (4, [.ref (q 130), .ref (q 131), .int 16, .int 0, .int 0, .int 0, .int 0, .int 0, .int 0, .long 0, .int (-1), .int (-1)])), ((q 130), .inl (k 0, 900, .inl (upd (upd (upd (upd f (12 : Int32).toNatClampNeg (vp_nar .byte x_1.toInt8.toInt32)) (13 : Int32).toNatClampNeg (vp_nar .byte x_3.toInt8.toInt32)) (14 : Int32).toNatClampNeg (vp_nar .byte x_5.toInt8.toInt32)) (15 : Int32).toNatClampNeg (vp_nar .byte x_7.toInt8.toInt32))))] := hD
  refine lv_iinc (v := (-8)) (lv' := [(2, .int (-8)), (0, .ref (q 5)), (1, .int x)]) hx hb dX4_putOnTape_30 hl (k := 0) rfl (by decide +kernel) (by decide) rfl (fun ls hl => ?_)
  refine lv_goto (tgt := 3) hx hb dX4_putOnTape_33 (by decide) ?_
  refine lv_iload_n hx hb dX4_putOnTape_3 rfl (lv_at hl 0 rfl) ?_
  refine lv_if_lt (tgt := 36) hx hb dX4_putOnTape_4 (by decide) (fun _ => ?_) (fun c => absurd (by decide) c)
  exact EWv hx hb hr hlocks hS (upd (upd (upd (upd f (12 : Int32).toNatClampNeg (vp_nar .byte x_1.toInt8.toInt32)) (13 : Int32).toNatClampNeg (vp_nar .byte x_3.toInt8.toInt32)) (14 : Int32).toNatClampNeg (vp_nar .byte x_5.toInt8.toInt32)) (15 : Int32).toNatClampNeg (vp_nar .byte x_7.toInt8.toInt32)) rfl trivial hP hD dX4_putOnTape_36
set_option maxHeartbeats 4000000 in
set_option maxRecDepth 100000 in
theorem c_tape16 (l : Launch) (D : va_G) (k : Nat → ClassId) (q : Nat → Nat) (f : Nat → Int32) (x : Int32) : WD (σ := (Nat → Int32)) l yX4_putOnTape cX4_putOnTape 3 none 0 0 0 D k [.ref (q 5), .int x] [((q 5), .inr (4, [.ref (q 130), .ref (q 131), .int 16, .int 0, .int 0, .int 0, .int 0, .int 0, .int 0, .long 0, .int (-1), .int (-1)])), ((q 130), .inl (k 0, 900, .inl f))] (fun _ => none) (fun _ => True) (fun g => [((q 5), .inr (4, [.ref (q 130), .ref (q 131), .int 20, .int 0, .int 0, .int 0, .int 0, .int 0, .int 0, .long 0, .int (-1), .int (-1)])), ((q 130), .inl (k 0, 900, .inl g))]) := by
  refine MW (by decide) (Nat.le_of_ble_eq_true rfl) (fun p e s m below meth c ls A hx hb hml hr hlocks hin hts hown hKK hP hD hS hA hl => ?_)
  have hK := hKK.1
  have hl : lv_has ls 3 [(0, .ref (q 5)), (1, .int x)] := hl
  refine lv_bipush (v := 24) hx hb dX4_putOnTape_0 (by decide) ?_
  refine lv_istore_n (lv' := [(2, .int 24), (0, .ref (q 5)), (1, .int x)]) hx hb dX4_putOnTape_2 rfl hl (by decide) rfl (fun ls hl => ?_)
  refine lv_iload_n hx hb dX4_putOnTape_3 rfl (lv_at hl 0 rfl) ?_
  refine lv_if_lt (tgt := 36) hx hb dX4_putOnTape_4 (by decide) (fun c => absurd c (by decide)) (fun _ => ?_)
  refine lv_aload_n hx hb dX4_putOnTape_7 rfl (lv_at hl 1 rfl) ?_
  refine va_get (D := D) (ci := 4) (v := .ref (q 130)) (C := RX4) (T := TX4) (N := 12) hx hb hts iX4 hown hK hP 0 rfl rfl 0 (by decide) (hts _ qf_X4_9) (fun _ h => h) rfl dX4_putOnTape_8 ?_
  refine lv_aload_n hx hb dX4_putOnTape_11 rfl (lv_at hl 1 rfl) ?_
  refine va_get (D := D) (ci := 4) (v := .int 16) (C := RX4) (T := TX4) (N := 12) hx hb hts iX4 hown hK hP 0 rfl rfl 2 (by decide) (hts _ qf_X4_42) (fun _ h => h) rfl dX4_putOnTape_12 ?_
  refine lv_iload_n hx hb dX4_putOnTape_15 rfl (lv_at hl 2 rfl) ?_
  refine lv_iload_n hx hb dX4_putOnTape_16 rfl (lv_at hl 0 rfl) ?_
  refine lv_ishr hx hb dX4_putOnTape_17 ?_
  refine lv_topi (fun x_1 ex_1 => ?_)
  refine lv_i2b (v := x_1.toInt8.toInt32) hx hb dX4_putOnTape_18 rfl ?_
  refine va_bast hx hb hK hP hD hS 1 0 rfl rfl (xin 16 900 rfl (by decide) (by decide)) dX4_putOnTape_19 (fun H locs hP hD hS => ?_)
  have hP : va_P D vwCl [((q 5), .inr (4, [.ref (q 130), .ref (q 131), .int 16, .int 0, .int 0, .int 0, .int 0, .int 0, .int 0, .long 0, .int (-1), .int (-1)])), ((q 130), .inl (k 0, 900, .inl (upd f (16 : Int32).toNatClampNeg (vp_nar .byte x_1.toInt8.toInt32))))] H := hP
  have hD : va_D A [((q 5), .inr (4, [.ref (q 130), .ref (q 131), .int 16, .int 0, .int 0, .int 0, .int 0, .int 0, .int 0, .long 0, .int (-1), .int (-1)])), ((q 130), .inl (k 0, 900, .inl (upd f (16 : Int32).toNatClampNeg (vp_nar .byte x_1.toInt8.toInt32))))] := hD
  refine lv_aload_n hx hb dX4_putOnTape_20 rfl (lv_at hl 1 rfl) ?_
  refine lv_dup hx hb dX4_putOnTape_21 rfl ?_
  refine va_get (D := D) (ci := 4) (v := .int 16) (C := RX4) (T := TX4) (N := 12) hx hb hts iX4 hown hK hP 0 rfl rfl 2 (by decide) (hts _ qf_X4_42) (fun _ h => h) rfl dX4_putOnTape_22 ?_
  refine lv_iconst (v := 1) hx hb dX4_putOnTape_25 (by decide) ?_
  refine lv_iadd hx hb dX4_putOnTape_26 ?_
  refine lv_topi (fun x_2 ex_2 => ?_)
  obtain rfl : x_2 = 17 := ex_2.trans (by decide +kernel)
  refine va_put (D := D) (ci := 4) (v := .int 17) (ty := .int) (C := RX4) (T := TX4) (N := 12) hx hb hts iX4 tyX4 tyX4_ok nmX4 hown hK hP hD hS 0 rfl rfl 2 (by decide) (hts _ qf_X4_42) (fun _ h => h) rfl (by decide +kernel) rfl rfl (Nat.le_of_ble_eq_true rfl) dX4_putOnTape_27 (fun H locs hP hD hS => ?_)
  have hP : va_P D vwCl [((q 5), .inr (4, [.ref (q 130), .ref (q 131), .int 17, .int 0, .int 0, .int 0, .int 0, .int 0, .int 0, .long 0, .int (-1), .int (-1)])), ((q 130), .inl (k 0, 900, .inl (upd f (16 : Int32).toNatClampNeg (vp_nar .byte x_1.toInt8.toInt32))))] H := hP
  have hD : va_D A [((q 5), .inr (4, [.ref (q 130), .ref (q 131), .int 17, .int 0, .int 0, .int 0, .int 0, .int 0, .int 0, .long 0, .int (-1), .int (-1)])), ((q 130), .inl (k 0, 900, .inl (upd f (16 : Int32).toNatClampNeg (vp_nar .byte x_1.toInt8.toInt32))))] := hD
  refine lv_iinc (v := 16) (lv' := [(2, .int 16), (0, .ref (q 5)), (1, .int x)]) hx hb dX4_putOnTape_30 hl (k := 0) rfl (by decide +kernel) (by decide) rfl (fun ls hl => ?_)
  refine lv_goto (tgt := 3) hx hb dX4_putOnTape_33 (by decide) ?_
  refine lv_iload_n hx hb dX4_putOnTape_3 rfl (lv_at hl 0 rfl) ?_
  refine lv_if_lt (tgt := 36) hx hb dX4_putOnTape_4 (by decide) (fun c => absurd c (by decide)) (fun _ => ?_)
  refine lv_aload_n hx hb dX4_putOnTape_7 rfl (lv_at hl 1 rfl) ?_
  refine va_get (D := D) (ci := 4) (v := .ref (q 130)) (C := RX4) (T := TX4) (N := 12) hx hb hts iX4 hown hK hP 0 rfl rfl 0 (by decide) (hts _ qf_X4_9) (fun _ h => h) rfl dX4_putOnTape_8 ?_
  refine lv_aload_n hx hb dX4_putOnTape_11 rfl (lv_at hl 1 rfl) ?_
  refine va_get (D := D) (ci := 4) (v := .int 17) (C := RX4) (T := TX4) (N := 12) hx hb hts iX4 hown hK hP 0 rfl rfl 2 (by decide) (hts _ qf_X4_42) (fun _ h => h) rfl dX4_putOnTape_12 ?_
  refine lv_iload_n hx hb dX4_putOnTape_15 rfl (lv_at hl 2 rfl) ?_
  refine lv_iload_n hx hb dX4_putOnTape_16 rfl (lv_at hl 0 rfl) ?_
  refine lv_ishr hx hb dX4_putOnTape_17 ?_
  refine lv_topi (fun x_3 ex_3 => ?_)
  refine lv_i2b (v := x_3.toInt8.toInt32) hx hb dX4_putOnTape_18 rfl ?_
  refine va_bast hx hb hK hP hD hS 1 0 rfl rfl (xin 17 900 rfl (by decide) (by decide)) dX4_putOnTape_19 (fun H locs hP hD hS => ?_)
  have hP : va_P D vwCl [((q 5), .inr (4, [.ref (q 130), .ref (q 131), .int 17, .int 0, .int 0, .int 0, .int 0, .int 0, .int 0, .long 0, .int (-1), .int (-1)])), ((q 130), .inl (k 0, 900, .inl (upd (upd f (16 : Int32).toNatClampNeg (vp_nar .byte x_1.toInt8.toInt32)) (17 : Int32).toNatClampNeg (vp_nar .byte x_3.toInt8.toInt32))))] H := hP
  have hD : va_D A [((q 5), .inr (4, [.ref (q 130), .ref (q 131), .int 17, .int 0, .int 0, .int 0, .int 0, .int 0, .int 0, .long 0, .int (-1), .int (-1)])), ((q 130), .inl (k 0, 900, .inl (upd (upd f (16 : Int32).toNatClampNeg (vp_nar .byte x_1.toInt8.toInt32)) (17 : Int32).toNatClampNeg (vp_nar .byte x_3.toInt8.toInt32))))] := hD
  refine lv_aload_n hx hb dX4_putOnTape_20 rfl (lv_at hl 1 rfl) ?_
  refine lv_dup hx hb dX4_putOnTape_21 rfl ?_
  refine va_get (D := D) (ci := 4) (v := .int 17) (C := RX4) (T := TX4) (N := 12) hx hb hts iX4 hown hK hP 0 rfl rfl 2 (by decide) (hts _ qf_X4_42) (fun _ h => h) rfl dX4_putOnTape_22 ?_
  refine lv_iconst (v := 1) hx hb dX4_putOnTape_25 (by decide) ?_
  refine lv_iadd hx hb dX4_putOnTape_26 ?_
  refine lv_topi (fun x_4 ex_4 => ?_)
  obtain rfl : x_4 = 18 := ex_4.trans (by decide +kernel)
  refine va_put (D := D) (ci := 4) (v := .int 18) (ty := .int) (C := RX4) (T := TX4) (N := 12) hx hb hts iX4 tyX4 tyX4_ok nmX4 hown hK hP hD hS 0 rfl rfl 2 (by decide) (hts _ qf_X4_42) (fun _ h => h) rfl (by decide +kernel) rfl rfl (Nat.le_of_ble_eq_true rfl) dX4_putOnTape_27 (fun H locs hP hD hS => ?_)
  have hP : va_P D vwCl [((q 5), .inr (4, [.ref (q 130), .ref (q 131), .int 18, .int 0, .int 0, .int 0, .int 0, .int 0, .int 0, .long 0, .int (-1), .int (-1)])), ((q 130), .inl (k 0, 900, .inl (upd (upd f (16 : Int32).toNatClampNeg (vp_nar .byte x_1.toInt8.toInt32)) (17 : Int32).toNatClampNeg (vp_nar .byte x_3.toInt8.toInt32))))] H := hP
  have hD : va_D A [((q 5), .inr (4, [.ref (q 130), .ref (q 131), .int 18, .int 0, .int 0, .int 0, .int 0, .int 0, .int 0, .long 0, .int (-1), .int (-1)])), ((q 130), .inl (k 0, 900, .inl (upd (upd f (16 : Int32).toNatClampNeg (vp_nar .byte x_1.toInt8.toInt32)) (17 : Int32).toNatClampNeg (vp_nar .byte x_3.toInt8.toInt32))))] := hD
  refine lv_iinc (v := 8) (lv' := [(2, .int 8), (0, .ref (q 5)), (1, .int x)]) hx hb dX4_putOnTape_30 hl (k := 0) rfl (by decide +kernel) (by decide) rfl (fun ls hl => ?_)
  refine lv_goto (tgt := 3) hx hb dX4_putOnTape_33 (by decide) ?_
  refine lv_iload_n hx hb dX4_putOnTape_3 rfl (lv_at hl 0 rfl) ?_
  refine lv_if_lt (tgt := 36) hx hb dX4_putOnTape_4 (by decide) (fun c => absurd c (by decide)) (fun _ => ?_)
  refine lv_aload_n hx hb dX4_putOnTape_7 rfl (lv_at hl 1 rfl) ?_
  refine va_get (D := D) (ci := 4) (v := .ref (q 130)) (C := RX4) (T := TX4) (N := 12) hx hb hts iX4 hown hK hP 0 rfl rfl 0 (by decide) (hts _ qf_X4_9) (fun _ h => h) rfl dX4_putOnTape_8 ?_
  refine lv_aload_n hx hb dX4_putOnTape_11 rfl (lv_at hl 1 rfl) ?_
  refine va_get (D := D) (ci := 4) (v := .int 18) (C := RX4) (T := TX4) (N := 12) hx hb hts iX4 hown hK hP 0 rfl rfl 2 (by decide) (hts _ qf_X4_42) (fun _ h => h) rfl dX4_putOnTape_12 ?_
  refine lv_iload_n hx hb dX4_putOnTape_15 rfl (lv_at hl 2 rfl) ?_
  refine lv_iload_n hx hb dX4_putOnTape_16 rfl (lv_at hl 0 rfl) ?_
  refine lv_ishr hx hb dX4_putOnTape_17 ?_
  refine lv_topi (fun x_5 ex_5 => ?_)
  refine lv_i2b (v := x_5.toInt8.toInt32) hx hb dX4_putOnTape_18 rfl ?_
  refine va_bast hx hb hK hP hD hS 1 0 rfl rfl (xin 18 900 rfl (by decide) (by decide)) dX4_putOnTape_19 (fun H locs hP hD hS => ?_)
  have hP : va_P D vwCl [((q 5), .inr (4, [.ref (q 130), .ref (q 131), .int 18, .int 0, .int 0, .int 0, .int 0, .int 0, .int 0, .long 0, .int (-1), .int (-1)])), ((q 130), .inl (k 0, 900, .inl (upd (upd (upd f (16 : Int32).toNatClampNeg (vp_nar .byte x_1.toInt8.toInt32)) (17 : Int32).toNatClampNeg (vp_nar .byte x_3.toInt8.toInt32)) (18 : Int32).toNatClampNeg (vp_nar .byte x_5.toInt8.toInt32))))] H := hP
  have hD : va_D A [((q 5), .inr (4, [.ref (q 130), .ref (q 131), .int 18, .int 0, .int 0, .int 0, .int 0, .int 0, .int 0, .long 0, .int (-1), .int (-1)])), ((q 130), .inl (k 0, 900, .inl (upd (upd (upd f (16 : Int32).toNatClampNeg (vp_nar .byte x_1.toInt8.toInt32)) (17 : Int32).toNatClampNeg (vp_nar .byte x_3.toInt8.toInt32)) (18 : Int32).toNatClampNeg (vp_nar .byte x_5.toInt8.toInt32))))] := hD
  refine lv_aload_n hx hb dX4_putOnTape_20 rfl (lv_at hl 1 rfl) ?_
  refine lv_dup hx hb dX4_putOnTape_21 rfl ?_
  refine va_get (D := D) (ci := 4) (v := .int 18) (C := RX4) (T := TX4) (N := 12) hx hb hts iX4 hown hK hP 0 rfl rfl 2 (by decide) (hts _ qf_X4_42) (fun _ h => h) rfl dX4_putOnTape_22 ?_
  refine lv_iconst (v := 1) hx hb dX4_putOnTape_25 (by decide) ?_
  refine lv_iadd hx hb dX4_putOnTape_26 ?_
  refine lv_topi (fun x_6 ex_6 => ?_)
  obtain rfl : x_6 = 19 := ex_6.trans (by decide +kernel)
  refine va_put (D := D) (ci := 4) (v := .int 19) (ty := .int) (C := RX4) (T := TX4) (N := 12) hx hb hts iX4 tyX4 tyX4_ok nmX4 hown hK hP hD hS 0 rfl rfl 2 (by decide) (hts _ qf_X4_42) (fun _ h => h) rfl (by decide +kernel) rfl rfl (Nat.le_of_ble_eq_true rfl) dX4_putOnTape_27 (fun H locs hP hD hS => ?_)
  have hP : va_P D vwCl [((q 5), .inr (4, [.ref (q 130), .ref (q 131), .int 19, .int 0, .int 0, .int 0, .int 0, .int 0, .int 0, .long 0, .int (-1), .int (-1)])), ((q 130), .inl (k 0, 900, .inl (upd (upd (upd f (16 : Int32).toNatClampNeg (vp_nar .byte x_1.toInt8.toInt32)) (17 : Int32).toNatClampNeg (vp_nar .byte x_3.toInt8.toInt32)) (18 : Int32).toNatClampNeg (vp_nar .byte x_5.toInt8.toInt32))))] H := hP
  have hD : va_D A [((q 5), .inr (4, [.ref (q 130), .ref (q 131), .int 19, .int 0, .int 0, .int 0, .int 0, .int 0, .int 0, .long 0, .int (-1), .int (-1)])), ((q 130), .inl (k 0, 900, .inl (upd (upd (upd f (16 : Int32).toNatClampNeg (vp_nar .byte x_1.toInt8.toInt32)) (17 : Int32).toNatClampNeg (vp_nar .byte x_3.toInt8.toInt32)) (18 : Int32).toNatClampNeg (vp_nar .byte x_5.toInt8.toInt32))))] := hD
  refine lv_iinc (v := 0) (lv' := [(2, .int 0), (0, .ref (q 5)), (1, .int x)]) hx hb dX4_putOnTape_30 hl (k := 0) rfl (by decide +kernel) (by decide) rfl (fun ls hl => ?_)
  refine lv_goto (tgt := 3) hx hb dX4_putOnTape_33 (by decide) ?_
  refine lv_iload_n hx hb dX4_putOnTape_3 rfl (lv_at hl 0 rfl) ?_
  refine lv_if_lt (tgt := 36) hx hb dX4_putOnTape_4 (by decide) (fun c => absurd c (by decide)) (fun _ => ?_)
  refine lv_aload_n hx hb dX4_putOnTape_7 rfl (lv_at hl 1 rfl) ?_
  refine va_get (D := D) (ci := 4) (v := .ref (q 130)) (C := RX4) (T := TX4) (N := 12) hx hb hts iX4 hown hK hP 0 rfl rfl 0 (by decide) (hts _ qf_X4_9) (fun _ h => h) rfl dX4_putOnTape_8 ?_
  refine lv_aload_n hx hb dX4_putOnTape_11 rfl (lv_at hl 1 rfl) ?_
  refine va_get (D := D) (ci := 4) (v := .int 19) (C := RX4) (T := TX4) (N := 12) hx hb hts iX4 hown hK hP 0 rfl rfl 2 (by decide) (hts _ qf_X4_42) (fun _ h => h) rfl dX4_putOnTape_12 ?_
  refine lv_iload_n hx hb dX4_putOnTape_15 rfl (lv_at hl 2 rfl) ?_
  refine lv_iload_n hx hb dX4_putOnTape_16 rfl (lv_at hl 0 rfl) ?_
  refine lv_ishr hx hb dX4_putOnTape_17 ?_
  refine lv_topi (fun x_7 ex_7 => ?_)
  refine lv_i2b (v := x_7.toInt8.toInt32) hx hb dX4_putOnTape_18 rfl ?_
  refine va_bast hx hb hK hP hD hS 1 0 rfl rfl (xin 19 900 rfl (by decide) (by decide)) dX4_putOnTape_19 (fun H locs hP hD hS => ?_)
  have hP : va_P D vwCl [((q 5), .inr (4, [.ref (q 130), .ref (q 131), .int 19, .int 0, .int 0, .int 0, .int 0, .int 0, .int 0, .long 0, .int (-1), .int (-1)])), ((q 130), .inl (k 0, 900, .inl (upd (upd (upd (upd f (16 : Int32).toNatClampNeg (vp_nar .byte x_1.toInt8.toInt32)) (17 : Int32).toNatClampNeg (vp_nar .byte x_3.toInt8.toInt32)) (18 : Int32).toNatClampNeg (vp_nar .byte x_5.toInt8.toInt32)) (19 : Int32).toNatClampNeg (vp_nar .byte x_7.toInt8.toInt32))))] H := hP
  have hD : va_D A [((q 5), .inr (4, [.ref (q 130), .ref (q 131), .int 19, .int 0, .int 0, .int 0, .int 0, .int 0, .int 0, .long 0, .int (-1), .int (-1)])), ((q 130), .inl (k 0, 900, .inl (upd (upd (upd (upd f (16 : Int32).toNatClampNeg (vp_nar .byte x_1.toInt8.toInt32)) (17 : Int32).toNatClampNeg (vp_nar .byte x_3.toInt8.toInt32)) (18 : Int32).toNatClampNeg (vp_nar .byte x_5.toInt8.toInt32)) (19 : Int32).toNatClampNeg (vp_nar .byte x_7.toInt8.toInt32))))] := hD
  refine lv_aload_n hx hb dX4_putOnTape_20 rfl (lv_at hl 1 rfl) ?_
  refine lv_dup hx hb dX4_putOnTape_21 rfl ?_
  refine va_get (D := D) (ci := 4) (v := .int 19) (C := RX4) (T := TX4) (N := 12) hx hb hts iX4 hown hK hP 0 rfl rfl 2 (by decide) (hts _ qf_X4_42) (fun _ h => h) rfl dX4_putOnTape_22 ?_
  refine lv_iconst (v := 1) hx hb dX4_putOnTape_25 (by decide) ?_
  refine lv_iadd hx hb dX4_putOnTape_26 ?_
  refine lv_topi (fun x_8 ex_8 => ?_)
  obtain rfl : x_8 = 20 := ex_8.trans (by decide +kernel)
  refine va_put (D := D) (ci := 4) (v := .int 20) (ty := .int) (C := RX4) (T := TX4) (N := 12) hx hb hts iX4 tyX4 tyX4_ok nmX4 hown hK hP hD hS 0 rfl rfl 2 (by decide) (hts _ qf_X4_42) (fun _ h => h) rfl (by decide +kernel) rfl rfl (Nat.le_of_ble_eq_true rfl) dX4_putOnTape_27 (fun H locs hP hD hS => ?_)
  have hP : va_P D vwCl [((q 5), .inr (4, [.ref (q 130), .ref (q 131), .int 20, .int 0, .int 0, .int 0, .int 0, .int 0, .int 0, .long 0, .int (-1), .int (-1)])), ((q 130), .inl (k 0, 900, .inl (upd (upd (upd (upd f (16 : Int32).toNatClampNeg (vp_nar .byte x_1.toInt8.toInt32)) (17 : Int32).toNatClampNeg (vp_nar .byte x_3.toInt8.toInt32)) (18 : Int32).toNatClampNeg (vp_nar .byte x_5.toInt8.toInt32)) (19 : Int32).toNatClampNeg (vp_nar .byte x_7.toInt8.toInt32))))] H := hP
  have hD : va_D A [((q 5), .inr (4, [.ref (q 130), .ref (q 131), .int 20, .int 0, .int 0, .int 0, .int 0, .int 0, .int 0, .long 0, .int (-1), .int (-1)])), ((q 130), .inl (k 0, 900, .inl (upd (upd (upd (upd f (16 : Int32).toNatClampNeg (vp_nar .byte x_1.toInt8.toInt32)) (17 : Int32).toNatClampNeg (vp_nar .byte x_3.toInt8.toInt32)) (18 : Int32).toNatClampNeg (vp_nar .byte x_5.toInt8.toInt32)) (19 : Int32).toNatClampNeg (vp_nar .byte x_7.toInt8.toInt32))))] := hD
  refine lv_iinc (v := (-8)) (lv' := [(2, .int (-8)), (0, .ref (q 5)), (1, .int x)]) hx hb dX4_putOnTape_30 hl (k := 0) rfl (by decide +kernel) (by decide) rfl (fun ls hl => ?_)
  refine lv_goto (tgt := 3) hx hb dX4_putOnTape_33 (by decide) ?_
  refine lv_iload_n hx hb dX4_putOnTape_3 rfl (lv_at hl 0 rfl) ?_
  refine lv_if_lt (tgt := 36) hx hb dX4_putOnTape_4 (by decide) (fun _ => ?_) (fun c => absurd (by decide) c)
  exact EWv hx hb hr hlocks hS (upd (upd (upd (upd f (16 : Int32).toNatClampNeg (vp_nar .byte x_1.toInt8.toInt32)) (17 : Int32).toNatClampNeg (vp_nar .byte x_3.toInt8.toInt32)) (18 : Int32).toNatClampNeg (vp_nar .byte x_5.toInt8.toInt32)) (19 : Int32).toNatClampNeg (vp_nar .byte x_7.toInt8.toInt32)) rfl trivial hP hD dX4_putOnTape_36
set_option maxHeartbeats 4000000 in
set_option maxRecDepth 100000 in
theorem p_feed (l : Launch) (D : va_G) (k : Nat → ClassId) (q : Nat → Nat) (a : Int32) (b : Int32) (c1 : Int32) (d1 : Int32) (e1 : Int32) : WD (σ := Unit) l yX11_feed cX11_feed 6 (some .int) 8 0 0 D k [.ref (q 0), .int a, .int b, .int c1, .int d1, .int e1] [((q 0), .inr (11, [.ref (q 1), .ref (q 2), .ref (q 3), .ref (q 4), .ref (q 5), .ref (q 6), .ref (q 7), .ref (q 8), .ref (q 9), .ref (q 10), .ref (q 11), .int 0, .int 0, .int 0, .long 0, .long 1])), ((q 5), .inr (4, [.ref (q 130), .ref (q 131), .int 0, .int 0, .int 0, .int 0, .int 0, .int 0, .int 0, .long 0, .int (-1), .int (-1)])), ((q 130), .inl (k 0, 900, .inl (fun _ => 0)))] (fun _ => some (.int 20)) (fun _ => True) (fun _ => []) := by
  refine MW (by decide) (Nat.le_of_ble_eq_true rfl) (fun p e s m below meth c ls A hx hb hml hr hlocks hin hts hown hKK hP hD hS hA hl => ?_)
  have hK := hKK.1
  have hl : lv_has ls 6 [(0, .ref (q 0)), (1, .int a), (2, .int b), (3, .int c1), (4, .int d1), (5, .int e1)] := hl
  refine lv_aload_n hx hb dX11_feed_0 rfl (lv_at hl 0 rfl) ?_
  refine va_get (D := D) (ci := 11) (v := .ref (q 5)) (C := RX11) (T := TX11) (N := 16) hx hb hts iX11 hown hK hP 0 rfl rfl 4 (by decide) (hts _ qf_X11_32) (fun _ h => h) rfl dX11_feed_1 ?_
  refine va_get (D := D) (ci := 4) (v := .int 0) (C := RX4) (T := TX4) (N := 12) hx hb hts iX4 hown hK hP 1 rfl rfl 2 (by decide) (hts _ qf_X11_149) (fun _ h => h) rfl dX11_feed_4 ?_
  refine lv_sipush (v := 880) hx hb dX11_feed_7 (by decide) ?_
  refine lv_icmp_le (tgt := 15) hx hb dX11_feed_10 (by decide) (fun _ => ?_) (fun c => absurd (by decide) c)
  refine lv_aload_n hx hb dX11_feed_15 rfl (lv_at hl 0 rfl) ?_
  refine va_get (D := D) (ci := 11) (v := .ref (q 5)) (C := RX11) (T := TX11) (N := 16) hx hb hts iX11 hown hK hP 0 rfl rfl 4 (by decide) (hts _ qf_X11_32) (fun _ h => h) rfl dX11_feed_16 ?_
  refine lv_iload_n hx hb dX11_feed_19 rfl (lv_at hl 1 rfl) ?_
  refine CWV (As := [.int a]) (rest := []) (wc := [((q 5), .inr (4, [.ref (q 130), .ref (q 131), .int 0, .int 0, .int 0, .int 0, .int 0, .int 0, .int 0, .long 0, .int (-1), .int (-1)])), ((q 130), .inl (k 0, 900, .inl (fun _ => 0)))]) (wr := [((q 0), .inr (11, [.ref (q 1), .ref (q 2), .ref (q 3), .ref (q 4), .ref (q 5), .ref (q 6), .ref (q 7), .ref (q 8), .ref (q 9), .ref (q 10), .ref (q 11), .int 0, .int 0, .int 0, .long 0, .long 1]))]) hx hb hml hown hts hKK hP hD hS hA (c_tape0 l D k q (fun _ => 0) a) ci_X4_putOnTape qm_X11_152 ⟨Nat.le_of_ble_eq_true rfl, Nat.le_of_ble_eq_true rfl⟩ ⟨Nat.le_of_ble_eq_true rfl, Nat.le_of_ble_eq_true rfl⟩ [1, 2] [0] rfl rfl rfl rfl rfl (by decide) 0 rfl rfl rfl hl.1 rfl (Nat.le_of_ble_eq_true rfl) dX11_feed_20 (fun u_1 H locs hφ hP hD hS => ?_)
  have hP : va_P D vwCl [((q 0), .inr (11, [.ref (q 1), .ref (q 2), .ref (q 3), .ref (q 4), .ref (q 5), .ref (q 6), .ref (q 7), .ref (q 8), .ref (q 9), .ref (q 10), .ref (q 11), .int 0, .int 0, .int 0, .long 0, .long 1])), ((q 5), .inr (4, [.ref (q 130), .ref (q 131), .int 4, .int 0, .int 0, .int 0, .int 0, .int 0, .int 0, .long 0, .int (-1), .int (-1)])), ((q 130), .inl (k 0, 900, .inl u_1))] H := hP
  have hD : va_D A [((q 0), .inr (11, [.ref (q 1), .ref (q 2), .ref (q 3), .ref (q 4), .ref (q 5), .ref (q 6), .ref (q 7), .ref (q 8), .ref (q 9), .ref (q 10), .ref (q 11), .int 0, .int 0, .int 0, .long 0, .long 1])), ((q 5), .inr (4, [.ref (q 130), .ref (q 131), .int 4, .int 0, .int 0, .int 0, .int 0, .int 0, .int 0, .long 0, .int (-1), .int (-1)])), ((q 130), .inl (k 0, 900, .inl u_1))] := hD
  refine W.eq (g2 := F0 m 23 ls []) rfl ?_
  refine lv_aload_n hx hb dX11_feed_23 rfl (lv_at hl 0 rfl) ?_
  refine va_get (D := D) (ci := 11) (v := .ref (q 5)) (C := RX11) (T := TX11) (N := 16) hx hb hts iX11 hown hK hP 0 rfl rfl 4 (by decide) (hts _ qf_X11_32) (fun _ h => h) rfl dX11_feed_24 ?_
  refine lv_iload_n hx hb dX11_feed_27 rfl (lv_at hl 2 rfl) ?_
  refine CWV (As := [.int b]) (rest := []) (wc := [((q 5), .inr (4, [.ref (q 130), .ref (q 131), .int 4, .int 0, .int 0, .int 0, .int 0, .int 0, .int 0, .long 0, .int (-1), .int (-1)])), ((q 130), .inl (k 0, 900, .inl u_1))]) (wr := [((q 0), .inr (11, [.ref (q 1), .ref (q 2), .ref (q 3), .ref (q 4), .ref (q 5), .ref (q 6), .ref (q 7), .ref (q 8), .ref (q 9), .ref (q 10), .ref (q 11), .int 0, .int 0, .int 0, .long 0, .long 1]))]) hx hb hml hown hts hKK hP hD hS hA (c_tape4 l D k q u_1 b) ci_X4_putOnTape qm_X11_152 ⟨Nat.le_of_ble_eq_true rfl, Nat.le_of_ble_eq_true rfl⟩ ⟨Nat.le_of_ble_eq_true rfl, Nat.le_of_ble_eq_true rfl⟩ [1, 2] [0] rfl rfl rfl rfl rfl (by decide) 0 rfl rfl rfl hl.1 rfl (Nat.le_of_ble_eq_true rfl) dX11_feed_28 (fun u_2 H locs hφ hP hD hS => ?_)
  have hP : va_P D vwCl [((q 0), .inr (11, [.ref (q 1), .ref (q 2), .ref (q 3), .ref (q 4), .ref (q 5), .ref (q 6), .ref (q 7), .ref (q 8), .ref (q 9), .ref (q 10), .ref (q 11), .int 0, .int 0, .int 0, .long 0, .long 1])), ((q 5), .inr (4, [.ref (q 130), .ref (q 131), .int 8, .int 0, .int 0, .int 0, .int 0, .int 0, .int 0, .long 0, .int (-1), .int (-1)])), ((q 130), .inl (k 0, 900, .inl u_2))] H := hP
  have hD : va_D A [((q 0), .inr (11, [.ref (q 1), .ref (q 2), .ref (q 3), .ref (q 4), .ref (q 5), .ref (q 6), .ref (q 7), .ref (q 8), .ref (q 9), .ref (q 10), .ref (q 11), .int 0, .int 0, .int 0, .long 0, .long 1])), ((q 5), .inr (4, [.ref (q 130), .ref (q 131), .int 8, .int 0, .int 0, .int 0, .int 0, .int 0, .int 0, .long 0, .int (-1), .int (-1)])), ((q 130), .inl (k 0, 900, .inl u_2))] := hD
  refine W.eq (g2 := F0 m 31 ls []) rfl ?_
  refine lv_aload_n hx hb dX11_feed_31 rfl (lv_at hl 0 rfl) ?_
  refine va_get (D := D) (ci := 11) (v := .ref (q 5)) (C := RX11) (T := TX11) (N := 16) hx hb hts iX11 hown hK hP 0 rfl rfl 4 (by decide) (hts _ qf_X11_32) (fun _ h => h) rfl dX11_feed_32 ?_
  refine lv_iload_n hx hb dX11_feed_35 rfl (lv_at hl 3 rfl) ?_
  refine CWV (As := [.int c1]) (rest := []) (wc := [((q 5), .inr (4, [.ref (q 130), .ref (q 131), .int 8, .int 0, .int 0, .int 0, .int 0, .int 0, .int 0, .long 0, .int (-1), .int (-1)])), ((q 130), .inl (k 0, 900, .inl u_2))]) (wr := [((q 0), .inr (11, [.ref (q 1), .ref (q 2), .ref (q 3), .ref (q 4), .ref (q 5), .ref (q 6), .ref (q 7), .ref (q 8), .ref (q 9), .ref (q 10), .ref (q 11), .int 0, .int 0, .int 0, .long 0, .long 1]))]) hx hb hml hown hts hKK hP hD hS hA (c_tape8 l D k q u_2 c1) ci_X4_putOnTape qm_X11_152 ⟨Nat.le_of_ble_eq_true rfl, Nat.le_of_ble_eq_true rfl⟩ ⟨Nat.le_of_ble_eq_true rfl, Nat.le_of_ble_eq_true rfl⟩ [1, 2] [0] rfl rfl rfl rfl rfl (by decide) 0 rfl rfl rfl hl.1 rfl (Nat.le_of_ble_eq_true rfl) dX11_feed_36 (fun u_3 H locs hφ hP hD hS => ?_)
  have hP : va_P D vwCl [((q 0), .inr (11, [.ref (q 1), .ref (q 2), .ref (q 3), .ref (q 4), .ref (q 5), .ref (q 6), .ref (q 7), .ref (q 8), .ref (q 9), .ref (q 10), .ref (q 11), .int 0, .int 0, .int 0, .long 0, .long 1])), ((q 5), .inr (4, [.ref (q 130), .ref (q 131), .int 12, .int 0, .int 0, .int 0, .int 0, .int 0, .int 0, .long 0, .int (-1), .int (-1)])), ((q 130), .inl (k 0, 900, .inl u_3))] H := hP
  have hD : va_D A [((q 0), .inr (11, [.ref (q 1), .ref (q 2), .ref (q 3), .ref (q 4), .ref (q 5), .ref (q 6), .ref (q 7), .ref (q 8), .ref (q 9), .ref (q 10), .ref (q 11), .int 0, .int 0, .int 0, .long 0, .long 1])), ((q 5), .inr (4, [.ref (q 130), .ref (q 131), .int 12, .int 0, .int 0, .int 0, .int 0, .int 0, .int 0, .long 0, .int (-1), .int (-1)])), ((q 130), .inl (k 0, 900, .inl u_3))] := hD
  refine W.eq (g2 := F0 m 39 ls []) rfl ?_
  refine lv_aload_n hx hb dX11_feed_39 rfl (lv_at hl 0 rfl) ?_
  refine va_get (D := D) (ci := 11) (v := .ref (q 5)) (C := RX11) (T := TX11) (N := 16) hx hb hts iX11 hown hK hP 0 rfl rfl 4 (by decide) (hts _ qf_X11_32) (fun _ h => h) rfl dX11_feed_40 ?_
  refine lv_iload hx hb dX11_feed_43 (lv_at hl 4 rfl) ?_
  refine CWV (As := [.int d1]) (rest := []) (wc := [((q 5), .inr (4, [.ref (q 130), .ref (q 131), .int 12, .int 0, .int 0, .int 0, .int 0, .int 0, .int 0, .long 0, .int (-1), .int (-1)])), ((q 130), .inl (k 0, 900, .inl u_3))]) (wr := [((q 0), .inr (11, [.ref (q 1), .ref (q 2), .ref (q 3), .ref (q 4), .ref (q 5), .ref (q 6), .ref (q 7), .ref (q 8), .ref (q 9), .ref (q 10), .ref (q 11), .int 0, .int 0, .int 0, .long 0, .long 1]))]) hx hb hml hown hts hKK hP hD hS hA (c_tape12 l D k q u_3 d1) ci_X4_putOnTape qm_X11_152 ⟨Nat.le_of_ble_eq_true rfl, Nat.le_of_ble_eq_true rfl⟩ ⟨Nat.le_of_ble_eq_true rfl, Nat.le_of_ble_eq_true rfl⟩ [1, 2] [0] rfl rfl rfl rfl rfl (by decide) 0 rfl rfl rfl hl.1 rfl (Nat.le_of_ble_eq_true rfl) dX11_feed_45 (fun u_4 H locs hφ hP hD hS => ?_)
  have hP : va_P D vwCl [((q 0), .inr (11, [.ref (q 1), .ref (q 2), .ref (q 3), .ref (q 4), .ref (q 5), .ref (q 6), .ref (q 7), .ref (q 8), .ref (q 9), .ref (q 10), .ref (q 11), .int 0, .int 0, .int 0, .long 0, .long 1])), ((q 5), .inr (4, [.ref (q 130), .ref (q 131), .int 16, .int 0, .int 0, .int 0, .int 0, .int 0, .int 0, .long 0, .int (-1), .int (-1)])), ((q 130), .inl (k 0, 900, .inl u_4))] H := hP
  have hD : va_D A [((q 0), .inr (11, [.ref (q 1), .ref (q 2), .ref (q 3), .ref (q 4), .ref (q 5), .ref (q 6), .ref (q 7), .ref (q 8), .ref (q 9), .ref (q 10), .ref (q 11), .int 0, .int 0, .int 0, .long 0, .long 1])), ((q 5), .inr (4, [.ref (q 130), .ref (q 131), .int 16, .int 0, .int 0, .int 0, .int 0, .int 0, .int 0, .long 0, .int (-1), .int (-1)])), ((q 130), .inl (k 0, 900, .inl u_4))] := hD
  refine W.eq (g2 := F0 m 48 ls []) rfl ?_
  refine lv_aload_n hx hb dX11_feed_48 rfl (lv_at hl 0 rfl) ?_
  refine va_get (D := D) (ci := 11) (v := .ref (q 5)) (C := RX11) (T := TX11) (N := 16) hx hb hts iX11 hown hK hP 0 rfl rfl 4 (by decide) (hts _ qf_X11_32) (fun _ h => h) rfl dX11_feed_49 ?_
  refine lv_iload hx hb dX11_feed_52 (lv_at hl 5 rfl) ?_
  refine CWV (As := [.int e1]) (rest := []) (wc := [((q 5), .inr (4, [.ref (q 130), .ref (q 131), .int 16, .int 0, .int 0, .int 0, .int 0, .int 0, .int 0, .long 0, .int (-1), .int (-1)])), ((q 130), .inl (k 0, 900, .inl u_4))]) (wr := [((q 0), .inr (11, [.ref (q 1), .ref (q 2), .ref (q 3), .ref (q 4), .ref (q 5), .ref (q 6), .ref (q 7), .ref (q 8), .ref (q 9), .ref (q 10), .ref (q 11), .int 0, .int 0, .int 0, .long 0, .long 1]))]) hx hb hml hown hts hKK hP hD hS hA (c_tape16 l D k q u_4 e1) ci_X4_putOnTape qm_X11_152 ⟨Nat.le_of_ble_eq_true rfl, Nat.le_of_ble_eq_true rfl⟩ ⟨Nat.le_of_ble_eq_true rfl, Nat.le_of_ble_eq_true rfl⟩ [1, 2] [0] rfl rfl rfl rfl rfl (by decide) 0 rfl rfl rfl hl.1 rfl (Nat.le_of_ble_eq_true rfl) dX11_feed_54 (fun u_5 H locs hφ hP hD hS => ?_)
  have hP : va_P D vwCl [((q 0), .inr (11, [.ref (q 1), .ref (q 2), .ref (q 3), .ref (q 4), .ref (q 5), .ref (q 6), .ref (q 7), .ref (q 8), .ref (q 9), .ref (q 10), .ref (q 11), .int 0, .int 0, .int 0, .long 0, .long 1])), ((q 5), .inr (4, [.ref (q 130), .ref (q 131), .int 20, .int 0, .int 0, .int 0, .int 0, .int 0, .int 0, .long 0, .int (-1), .int (-1)])), ((q 130), .inl (k 0, 900, .inl u_5))] H := hP
  have hD : va_D A [((q 0), .inr (11, [.ref (q 1), .ref (q 2), .ref (q 3), .ref (q 4), .ref (q 5), .ref (q 6), .ref (q 7), .ref (q 8), .ref (q 9), .ref (q 10), .ref (q 11), .int 0, .int 0, .int 0, .long 0, .long 1])), ((q 5), .inr (4, [.ref (q 130), .ref (q 131), .int 20, .int 0, .int 0, .int 0, .int 0, .int 0, .int 0, .long 0, .int (-1), .int (-1)])), ((q 130), .inl (k 0, 900, .inl u_5))] := hD
  refine W.eq (g2 := F0 m 57 ls []) rfl ?_
  refine lv_aload_n hx hb dX11_feed_57 rfl (lv_at hl 0 rfl) ?_
  refine va_get (D := D) (ci := 11) (v := .ref (q 5)) (C := RX11) (T := TX11) (N := 16) hx hb hts iX11 hown hK hP 0 rfl rfl 4 (by decide) (hts _ qf_X11_32) (fun _ h => h) rfl dX11_feed_58 ?_
  refine va_get (D := D) (ci := 4) (v := .int 20) (C := RX4) (T := TX4) (N := 12) hx hb hts iX4 hown hK hP 1 rfl rfl 2 (by decide) (hts _ qf_X11_149) (fun _ h => h) rfl dX11_feed_61 ?_
  exact EWi hx hb hr hlocks hS () rfl trivial nil_P nil_D dX11_feed_64
set_option maxHeartbeats 4000000 in
set_option maxRecDepth 100000 in
theorem p_fault (l : Launch) (D : va_G) (k : Nat → ClassId) (q : Nat → Nat) (a : Int32) : WD (σ := Unit) l yX11_fault cX11_fault 2 (some .int) 8 0 0 D k [.ref (q 0), .int a] [((q 0), .inr (11, [.ref (q 1), .ref (q 2), .ref (q 3), .ref (q 4), .ref (q 5), .ref (q 6), .ref (q 7), .ref (q 8), .ref (q 9), .ref (q 10), .ref (q 11), .int 0, .int 0, .int 0, .long 0, .long 1])), ((q 5), .inr (4, [.ref (q 130), .ref (q 131), .int 0, .int 0, .int 0, .int 0, .int 0, .int 0, .int 0, .long 0, .int (-1), .int (-1)]))] (fun _ => some (.int (-1))) (fun _ => True) (fun _ => []) := by
  refine MW (by decide) (Nat.le_of_ble_eq_true rfl) (fun p e s m below meth c ls A hx hb hml hr hlocks hin hts hown hKK hP hD hS hA hl => ?_)
  have hK := hKK.1
  have hl : lv_has ls 2 [(0, .ref (q 0)), (1, .int a)] := hl
  refine lv_iload_n hx hb dX11_fault_0 rfl (lv_at hl 1 rfl) ?_
  refine lv_if_ne (tgt := 12) hx hb dX11_fault_1 (by decide) (fun c_1 => ?_) (fun c_1 => ?_)
  ·
    refine lv_iload_n hx hb dX11_fault_12 rfl (lv_at hl 1 rfl) ?_
    refine lv_iconst (v := 1) hx hb dX11_fault_13 (by decide) ?_
    refine lv_icmp_ne (tgt := 27) hx hb dX11_fault_14 (by decide) (fun c_2 => ?_) (fun c_2 => ?_)
    ·
      refine lv_iconst (v := (-1)) hx hb dX11_fault_27 (by decide) ?_
      exact EWi hx hb hr hlocks hS () rfl trivial nil_P nil_D dX11_fault_28
    ·
      refine lv_aload_n hx hb dX11_fault_17 rfl (lv_at hl 0 rfl) ?_
      refine va_get (D := D) (ci := 11) (v := .ref (q 5)) (C := RX11) (T := TX11) (N := 16) hx hb hts iX11 hown hK hP 0 rfl rfl 4 (by decide) (hts _ qf_X11_32) (fun _ h => h) rfl dX11_fault_18 ?_
      refine va_get (D := D) (ci := 4) (v := .int (-1)) (C := RX4) (T := TX4) (N := 12) hx hb hts iX4 hown hK hP 1 rfl rfl 11 (by decide) (hts _ qf_X11_196) (fun _ h => h) rfl dX11_fault_21 ?_
      refine lv_goto (tgt := 28) hx hb dX11_fault_24 (by decide) ?_
      exact EWi hx hb hr hlocks hS () rfl trivial nil_P nil_D dX11_fault_28
  ·
    refine lv_aload_n hx hb dX11_fault_4 rfl (lv_at hl 0 rfl) ?_
    refine va_get (D := D) (ci := 11) (v := .ref (q 5)) (C := RX11) (T := TX11) (N := 16) hx hb hts iX11 hown hK hP 0 rfl rfl 4 (by decide) (hts _ qf_X11_32) (fun _ h => h) rfl dX11_fault_5 ?_
    refine va_get (D := D) (ci := 4) (v := .int (-1)) (C := RX4) (T := TX4) (N := 12) hx hb hts iX4 hown hK hP 1 rfl rfl 10 (by decide) (hts _ qf_X11_193) (fun _ h => h) rfl dX11_fault_8 ?_
    exact EWi hx hb hr hlocks hS () rfl trivial nil_P nil_D dX11_fault_11
set_option maxHeartbeats 4000000 in
set_option maxRecDepth 100000 in
theorem c_wornNow (l : Launch) (D : va_G) (k : Nat → ClassId) (q : Nat → Nat) : RD l yX0_wornNow cX0_wornNow 1 (some .int) 0 D k [.ref (q 21)] [((q 21), .inr (0, [.ref (q 26), .ref (q 27), .ref (q 28), .ref (q 29), .int 0, .int 0])), ((q 26), .inl (k 1, 401, .inl (fun _ => 0)))] 0 := by
  refine MR (by decide) (Nat.le_of_ble_eq_true rfl) (fun p e s m below meth c ls hx hb hml hr hlocks hts hown hKK hP hl => ?_)
  have hK := hKK.1
  have hl : lv_has ls 1 [(0, .ref (q 21))] := hl
  refine lv_aload_n hx hb dX0_wornNow_0 rfl (lv_at hl 0 rfl) ?_
  refine va_get (D := D) (ci := 0) (v := .ref (q 26)) (C := RX0) (T := TX0) (N := 6) hx hb hts iX0 hown hK hP 0 rfl rfl 0 (by decide) (hts _ qf_X0_9) (fun _ h => h) rfl dX0_wornNow_1 ?_
  refine lv_aload_n hx hb dX0_wornNow_4 rfl (lv_at hl 0 rfl) ?_
  refine va_get (D := D) (ci := 0) (v := .int 0) (C := RX0) (T := TX0) (N := 6) hx hb hts iX0 hown hK hP 0 rfl rfl 4 (by decide) (hts _ qf_X0_24) (fun _ h => h) rfl dX0_wornNow_5 ?_
  refine va_iald hx hb hK hP 1 1 rfl rfl (xin 0 401 rfl (by decide) (by decide)) dX0_wornNow_8 ?_
  refine lv_topi (fun x_1 ex_1 => ?_)
  obtain rfl : x_1 = 0 := ex_1.trans (by decide +kernel)
  exact ERi hx hb hr hlocks rfl dX0_wornNow_9
set_option maxHeartbeats 4000000 in
set_option maxRecDepth 100000 in
theorem p_told (l : Launch) (D : va_G) (k : Nat → ClassId) (q : Nat → Nat) (a : Int32) : WD (σ := Unit) l yX11_told cX11_told 2 (some .int) 8 0 0 D k [.ref (q 0), .int a] [((q 0), .inr (11, [.ref (q 1), .ref (q 2), .ref (q 3), .ref (q 4), .ref (q 5), .ref (q 6), .ref (q 7), .ref (q 8), .ref (q 9), .ref (q 10), .ref (q 11), .int 0, .int 0, .int 0, .long 0, .long 1])), ((q 2), .inr (8, [.ref (q 20), .ref (q 21), .ref (q 22)])), ((q 20), .inr (5, [.ref (q 23), .ref (q 24), .ref (q 25), .int 0, .int 0, .int 0, .int 0])), ((q 21), .inr (0, [.ref (q 26), .ref (q 27), .ref (q 28), .ref (q 29), .int 0, .int 0])), ((q 26), .inl (k 1, 401, .inl (fun _ => 0)))] (fun _ => some (.int (inA a 5))) (fun _ => True) (fun _ => []) := by
  refine MW (by decide) (Nat.le_of_ble_eq_true rfl) (fun p e s m below meth c ls A hx hb hml hr hlocks hin hts hown hKK hP hD hS hA hl => ?_)
  have hK := hKK.1
  have hl : lv_has ls 2 [(0, .ref (q 0)), (1, .int a)] := hl
  refine lv_iload_n hx hb dX11_told_0 rfl (lv_at hl 1 rfl) ?_
  rcases Classical.em (a = 0) with c_1 | c_1
  ·
    refine lv_tableIn (tgt := 40) (off := 39) hx hb dX11_told_1 (by rw [c_1]; decide) (by rw [c_1]; decide) (by rw [c_1]; rfl) (by decide) ?_
    refine lv_aload_n hx hb dX11_told_40 rfl (lv_at hl 0 rfl) ?_
    refine lv_aload_n hx hb dX11_told_41 rfl (lv_at hl 0 rfl) ?_
    refine va_get (D := D) (ci := 11) (v := .ref (q 2)) (C := RX11) (T := TX11) (N := 16) hx hb hts iX11 hown hK hP 0 rfl rfl 1 (by decide) (hts _ qf_X11_18) (fun _ h => h) rfl dX11_told_42 ?_
    refine va_get (D := D) (ci := 8) (v := .ref (q 20)) (C := RX8) (T := TX8) (N := 3) hx hb hts iX8 hown hK hP 1 rfl rfl 0 (by decide) (hts _ qf_X11_54) (fun _ h => h) rfl dX11_told_45 ?_
    refine va_get (D := D) (ci := 5) (v := .int 0) (C := RX5) (T := TX5) (N := 7) hx hb hts iX5 hown hK hP 2 rfl rfl 3 (by decide) (hts _ qf_X11_169) (fun _ h => h) rfl dX11_told_48 ?_
    refine CWV (As := [.int 0]) (rest := []) (wc := [((q 0), .inr (11, [.ref (q 1), .ref (q 2), .ref (q 3), .ref (q 4), .ref (q 5), .ref (q 6), .ref (q 7), .ref (q 8), .ref (q 9), .ref (q 10), .ref (q 11), .int 0, .int 0, .int 0, .long 0, .long 1]))]) (wr := [((q 2), .inr (8, [.ref (q 20), .ref (q 21), .ref (q 22)])), ((q 20), .inr (5, [.ref (q 23), .ref (q 24), .ref (q 25), .int 0, .int 0, .int 0, .int 0])), ((q 21), .inr (0, [.ref (q 26), .ref (q 27), .ref (q 28), .ref (q 29), .int 0, .int 0])), ((q 26), .inl (k 1, 401, .inl (fun _ => 0)))]) hx hb hml hown hts hKK hP hD hS hA (c_answer l D k (q 0) [.ref (q 1), .ref (q 2), .ref (q 3), .ref (q 4), .ref (q 5), .ref (q 6), .ref (q 7), .ref (q 8), .ref (q 9), .ref (q 10), .ref (q 11), .int 0, .int 0, .int 0, .long 0, .long 1] (Nat.le_of_ble_eq_true rfl) 0) ci_X11_answer qm_X11_174 ⟨Nat.le_of_ble_eq_true rfl, Nat.le_of_ble_eq_true rfl⟩ ⟨Nat.le_of_ble_eq_true rfl, Nat.le_of_ble_eq_true rfl⟩ [0] [1, 2, 3, 4] rfl rfl rfl rfl rfl (by decide) 0 rfl rfl rfl hl.1 rfl (Nat.le_of_ble_eq_true rfl) dX11_told_51 (fun u_2 H locs hφ hP hD hS => ?_)
    have hP : va_P D vwCl [((q 2), .inr (8, [.ref (q 20), .ref (q 21), .ref (q 22)])), ((q 20), .inr (5, [.ref (q 23), .ref (q 24), .ref (q 25), .int 0, .int 0, .int 0, .int 0])), ((q 21), .inr (0, [.ref (q 26), .ref (q 27), .ref (q 28), .ref (q 29), .int 0, .int 0])), ((q 26), .inl (k 1, 401, .inl (fun _ => 0)))] H := hP
    have hD : va_D A [((q 2), .inr (8, [.ref (q 20), .ref (q 21), .ref (q 22)])), ((q 20), .inr (5, [.ref (q 23), .ref (q 24), .ref (q 25), .int 0, .int 0, .int 0, .int 0])), ((q 21), .inr (0, [.ref (q 26), .ref (q 27), .ref (q 28), .ref (q 29), .int 0, .int 0])), ((q 26), .inl (k 1, 401, .inl (fun _ => 0)))] := hD
    refine W.eq (g2 := F0 m 54 ls [.int 0]) rfl ?_
    exact EWi hx hb hr hlocks hS () (by rw [show inA a 5 = 0 by rw [c_1]; decide +kernel]) trivial nil_P nil_D dX11_told_54
  ·
    rcases Classical.em (a = 1) with c_3 | c_3
    ·
      refine lv_tableIn (tgt := 55) (off := 54) hx hb dX11_told_1 (by rw [c_3]; decide) (by rw [c_3]; decide) (by rw [c_3]; rfl) (by decide) ?_
      refine lv_aload_n hx hb dX11_told_55 rfl (lv_at hl 0 rfl) ?_
      refine lv_aload_n hx hb dX11_told_56 rfl (lv_at hl 0 rfl) ?_
      refine va_get (D := D) (ci := 11) (v := .ref (q 2)) (C := RX11) (T := TX11) (N := 16) hx hb hts iX11 hown hK hP 0 rfl rfl 1 (by decide) (hts _ qf_X11_18) (fun _ h => h) rfl dX11_told_57 ?_
      refine va_get (D := D) (ci := 8) (v := .ref (q 20)) (C := RX8) (T := TX8) (N := 3) hx hb hts iX8 hown hK hP 1 rfl rfl 0 (by decide) (hts _ qf_X11_54) (fun _ h => h) rfl dX11_told_60 ?_
      refine va_get (D := D) (ci := 5) (v := .int 0) (C := RX5) (T := TX5) (N := 7) hx hb hts iX5 hown hK hP 2 rfl rfl 4 (by decide) (hts _ qf_X11_199) (fun _ h => h) rfl dX11_told_63 ?_
      refine CWV (As := [.int 0]) (rest := []) (wc := [((q 0), .inr (11, [.ref (q 1), .ref (q 2), .ref (q 3), .ref (q 4), .ref (q 5), .ref (q 6), .ref (q 7), .ref (q 8), .ref (q 9), .ref (q 10), .ref (q 11), .int 0, .int 0, .int 0, .long 0, .long 1]))]) (wr := [((q 2), .inr (8, [.ref (q 20), .ref (q 21), .ref (q 22)])), ((q 20), .inr (5, [.ref (q 23), .ref (q 24), .ref (q 25), .int 0, .int 0, .int 0, .int 0])), ((q 21), .inr (0, [.ref (q 26), .ref (q 27), .ref (q 28), .ref (q 29), .int 0, .int 0])), ((q 26), .inl (k 1, 401, .inl (fun _ => 0)))]) hx hb hml hown hts hKK hP hD hS hA (c_answer l D k (q 0) [.ref (q 1), .ref (q 2), .ref (q 3), .ref (q 4), .ref (q 5), .ref (q 6), .ref (q 7), .ref (q 8), .ref (q 9), .ref (q 10), .ref (q 11), .int 0, .int 0, .int 0, .long 0, .long 1] (Nat.le_of_ble_eq_true rfl) 0) ci_X11_answer qm_X11_174 ⟨Nat.le_of_ble_eq_true rfl, Nat.le_of_ble_eq_true rfl⟩ ⟨Nat.le_of_ble_eq_true rfl, Nat.le_of_ble_eq_true rfl⟩ [0] [1, 2, 3, 4] rfl rfl rfl rfl rfl (by decide) 0 rfl rfl rfl hl.1 rfl (Nat.le_of_ble_eq_true rfl) dX11_told_66 (fun u_4 H locs hφ hP hD hS => ?_)
      have hP : va_P D vwCl [((q 2), .inr (8, [.ref (q 20), .ref (q 21), .ref (q 22)])), ((q 20), .inr (5, [.ref (q 23), .ref (q 24), .ref (q 25), .int 0, .int 0, .int 0, .int 0])), ((q 21), .inr (0, [.ref (q 26), .ref (q 27), .ref (q 28), .ref (q 29), .int 0, .int 0])), ((q 26), .inl (k 1, 401, .inl (fun _ => 0)))] H := hP
      have hD : va_D A [((q 2), .inr (8, [.ref (q 20), .ref (q 21), .ref (q 22)])), ((q 20), .inr (5, [.ref (q 23), .ref (q 24), .ref (q 25), .int 0, .int 0, .int 0, .int 0])), ((q 21), .inr (0, [.ref (q 26), .ref (q 27), .ref (q 28), .ref (q 29), .int 0, .int 0])), ((q 26), .inl (k 1, 401, .inl (fun _ => 0)))] := hD
      refine W.eq (g2 := F0 m 69 ls [.int 0]) rfl ?_
      exact EWi hx hb hr hlocks hS () (by rw [show inA a 5 = 0 by rw [c_3]; decide +kernel]) trivial nil_P nil_D dX11_told_69
    ·
      rcases Classical.em (a = 2) with c_5 | c_5
      ·
        refine lv_tableIn (tgt := 70) (off := 69) hx hb dX11_told_1 (by rw [c_5]; decide) (by rw [c_5]; decide) (by rw [c_5]; rfl) (by decide) ?_
        refine lv_aload_n hx hb dX11_told_70 rfl (lv_at hl 0 rfl) ?_
        refine lv_aload_n hx hb dX11_told_71 rfl (lv_at hl 0 rfl) ?_
        refine va_get (D := D) (ci := 11) (v := .ref (q 2)) (C := RX11) (T := TX11) (N := 16) hx hb hts iX11 hown hK hP 0 rfl rfl 1 (by decide) (hts _ qf_X11_18) (fun _ h => h) rfl dX11_told_72 ?_
        refine va_get (D := D) (ci := 8) (v := .ref (q 20)) (C := RX8) (T := TX8) (N := 3) hx hb hts iX8 hown hK hP 1 rfl rfl 0 (by decide) (hts _ qf_X11_54) (fun _ h => h) rfl dX11_told_75 ?_
        refine va_get (D := D) (ci := 5) (v := .int 0) (C := RX5) (T := TX5) (N := 7) hx hb hts iX5 hown hK hP 2 rfl rfl 5 (by decide) (hts _ qf_X11_202) (fun _ h => h) rfl dX11_told_78 ?_
        refine CWV (As := [.int 0]) (rest := []) (wc := [((q 0), .inr (11, [.ref (q 1), .ref (q 2), .ref (q 3), .ref (q 4), .ref (q 5), .ref (q 6), .ref (q 7), .ref (q 8), .ref (q 9), .ref (q 10), .ref (q 11), .int 0, .int 0, .int 0, .long 0, .long 1]))]) (wr := [((q 2), .inr (8, [.ref (q 20), .ref (q 21), .ref (q 22)])), ((q 20), .inr (5, [.ref (q 23), .ref (q 24), .ref (q 25), .int 0, .int 0, .int 0, .int 0])), ((q 21), .inr (0, [.ref (q 26), .ref (q 27), .ref (q 28), .ref (q 29), .int 0, .int 0])), ((q 26), .inl (k 1, 401, .inl (fun _ => 0)))]) hx hb hml hown hts hKK hP hD hS hA (c_answer l D k (q 0) [.ref (q 1), .ref (q 2), .ref (q 3), .ref (q 4), .ref (q 5), .ref (q 6), .ref (q 7), .ref (q 8), .ref (q 9), .ref (q 10), .ref (q 11), .int 0, .int 0, .int 0, .long 0, .long 1] (Nat.le_of_ble_eq_true rfl) 0) ci_X11_answer qm_X11_174 ⟨Nat.le_of_ble_eq_true rfl, Nat.le_of_ble_eq_true rfl⟩ ⟨Nat.le_of_ble_eq_true rfl, Nat.le_of_ble_eq_true rfl⟩ [0] [1, 2, 3, 4] rfl rfl rfl rfl rfl (by decide) 0 rfl rfl rfl hl.1 rfl (Nat.le_of_ble_eq_true rfl) dX11_told_81 (fun u_6 H locs hφ hP hD hS => ?_)
        have hP : va_P D vwCl [((q 2), .inr (8, [.ref (q 20), .ref (q 21), .ref (q 22)])), ((q 20), .inr (5, [.ref (q 23), .ref (q 24), .ref (q 25), .int 0, .int 0, .int 0, .int 0])), ((q 21), .inr (0, [.ref (q 26), .ref (q 27), .ref (q 28), .ref (q 29), .int 0, .int 0])), ((q 26), .inl (k 1, 401, .inl (fun _ => 0)))] H := hP
        have hD : va_D A [((q 2), .inr (8, [.ref (q 20), .ref (q 21), .ref (q 22)])), ((q 20), .inr (5, [.ref (q 23), .ref (q 24), .ref (q 25), .int 0, .int 0, .int 0, .int 0])), ((q 21), .inr (0, [.ref (q 26), .ref (q 27), .ref (q 28), .ref (q 29), .int 0, .int 0])), ((q 26), .inl (k 1, 401, .inl (fun _ => 0)))] := hD
        refine W.eq (g2 := F0 m 84 ls [.int 0]) rfl ?_
        exact EWi hx hb hr hlocks hS () (by rw [show inA a 5 = 0 by rw [c_5]; decide +kernel]) trivial nil_P nil_D dX11_told_84
      ·
        rcases Classical.em (a = 3) with c_7 | c_7
        ·
          refine lv_tableIn (tgt := 85) (off := 84) hx hb dX11_told_1 (by rw [c_7]; decide) (by rw [c_7]; decide) (by rw [c_7]; rfl) (by decide) ?_
          refine lv_aload_n hx hb dX11_told_85 rfl (lv_at hl 0 rfl) ?_
          refine lv_aload_n hx hb dX11_told_86 rfl (lv_at hl 0 rfl) ?_
          refine va_get (D := D) (ci := 11) (v := .ref (q 2)) (C := RX11) (T := TX11) (N := 16) hx hb hts iX11 hown hK hP 0 rfl rfl 1 (by decide) (hts _ qf_X11_18) (fun _ h => h) rfl dX11_told_87 ?_
          refine va_get (D := D) (ci := 8) (v := .ref (q 21)) (C := RX8) (T := TX8) (N := 3) hx hb hts iX8 hown hK hP 1 rfl rfl 1 (by decide) (hts _ qf_X11_205) (fun _ h => h) rfl dX11_told_90 ?_
          refine va_get (D := D) (ci := 0) (v := .int 0) (C := RX0) (T := TX0) (N := 6) hx hb hts iX0 hown hK hP 3 rfl rfl 4 (by decide) (hts _ qf_X11_209) (fun _ h => h) rfl dX11_told_93 ?_
          refine CWV (As := [.int 0]) (rest := []) (wc := [((q 0), .inr (11, [.ref (q 1), .ref (q 2), .ref (q 3), .ref (q 4), .ref (q 5), .ref (q 6), .ref (q 7), .ref (q 8), .ref (q 9), .ref (q 10), .ref (q 11), .int 0, .int 0, .int 0, .long 0, .long 1]))]) (wr := [((q 2), .inr (8, [.ref (q 20), .ref (q 21), .ref (q 22)])), ((q 20), .inr (5, [.ref (q 23), .ref (q 24), .ref (q 25), .int 0, .int 0, .int 0, .int 0])), ((q 21), .inr (0, [.ref (q 26), .ref (q 27), .ref (q 28), .ref (q 29), .int 0, .int 0])), ((q 26), .inl (k 1, 401, .inl (fun _ => 0)))]) hx hb hml hown hts hKK hP hD hS hA (c_answer l D k (q 0) [.ref (q 1), .ref (q 2), .ref (q 3), .ref (q 4), .ref (q 5), .ref (q 6), .ref (q 7), .ref (q 8), .ref (q 9), .ref (q 10), .ref (q 11), .int 0, .int 0, .int 0, .long 0, .long 1] (Nat.le_of_ble_eq_true rfl) 0) ci_X11_answer qm_X11_174 ⟨Nat.le_of_ble_eq_true rfl, Nat.le_of_ble_eq_true rfl⟩ ⟨Nat.le_of_ble_eq_true rfl, Nat.le_of_ble_eq_true rfl⟩ [0] [1, 2, 3, 4] rfl rfl rfl rfl rfl (by decide) 0 rfl rfl rfl hl.1 rfl (Nat.le_of_ble_eq_true rfl) dX11_told_96 (fun u_8 H locs hφ hP hD hS => ?_)
          have hP : va_P D vwCl [((q 2), .inr (8, [.ref (q 20), .ref (q 21), .ref (q 22)])), ((q 20), .inr (5, [.ref (q 23), .ref (q 24), .ref (q 25), .int 0, .int 0, .int 0, .int 0])), ((q 21), .inr (0, [.ref (q 26), .ref (q 27), .ref (q 28), .ref (q 29), .int 0, .int 0])), ((q 26), .inl (k 1, 401, .inl (fun _ => 0)))] H := hP
          have hD : va_D A [((q 2), .inr (8, [.ref (q 20), .ref (q 21), .ref (q 22)])), ((q 20), .inr (5, [.ref (q 23), .ref (q 24), .ref (q 25), .int 0, .int 0, .int 0, .int 0])), ((q 21), .inr (0, [.ref (q 26), .ref (q 27), .ref (q 28), .ref (q 29), .int 0, .int 0])), ((q 26), .inl (k 1, 401, .inl (fun _ => 0)))] := hD
          refine W.eq (g2 := F0 m 99 ls [.int 0]) rfl ?_
          exact EWi hx hb hr hlocks hS () (by rw [show inA a 5 = 0 by rw [c_7]; decide +kernel]) trivial nil_P nil_D dX11_told_99
        ·
          rcases Classical.em (a = 4) with c_9 | c_9
          ·
            refine lv_tableIn (tgt := 100) (off := 99) hx hb dX11_told_1 (by rw [c_9]; decide) (by rw [c_9]; decide) (by rw [c_9]; rfl) (by decide) ?_
            refine lv_aload_n hx hb dX11_told_100 rfl (lv_at hl 0 rfl) ?_
            refine lv_aload_n hx hb dX11_told_101 rfl (lv_at hl 0 rfl) ?_
            refine va_get (D := D) (ci := 11) (v := .ref (q 2)) (C := RX11) (T := TX11) (N := 16) hx hb hts iX11 hown hK hP 0 rfl rfl 1 (by decide) (hts _ qf_X11_18) (fun _ h => h) rfl dX11_told_102 ?_
            refine va_get (D := D) (ci := 8) (v := .ref (q 21)) (C := RX8) (T := TX8) (N := 3) hx hb hts iX8 hown hK hP 1 rfl rfl 1 (by decide) (hts _ qf_X11_205) (fun _ h => h) rfl dX11_told_105 ?_
            refine va_get (D := D) (ci := 0) (v := .int 0) (C := RX0) (T := TX0) (N := 6) hx hb hts iX0 hown hK hP 3 rfl rfl 5 (by decide) (hts _ qf_X11_214) (fun _ h => h) rfl dX11_told_108 ?_
            refine CWV (As := [.int 0]) (rest := []) (wc := [((q 0), .inr (11, [.ref (q 1), .ref (q 2), .ref (q 3), .ref (q 4), .ref (q 5), .ref (q 6), .ref (q 7), .ref (q 8), .ref (q 9), .ref (q 10), .ref (q 11), .int 0, .int 0, .int 0, .long 0, .long 1]))]) (wr := [((q 2), .inr (8, [.ref (q 20), .ref (q 21), .ref (q 22)])), ((q 20), .inr (5, [.ref (q 23), .ref (q 24), .ref (q 25), .int 0, .int 0, .int 0, .int 0])), ((q 21), .inr (0, [.ref (q 26), .ref (q 27), .ref (q 28), .ref (q 29), .int 0, .int 0])), ((q 26), .inl (k 1, 401, .inl (fun _ => 0)))]) hx hb hml hown hts hKK hP hD hS hA (c_answer l D k (q 0) [.ref (q 1), .ref (q 2), .ref (q 3), .ref (q 4), .ref (q 5), .ref (q 6), .ref (q 7), .ref (q 8), .ref (q 9), .ref (q 10), .ref (q 11), .int 0, .int 0, .int 0, .long 0, .long 1] (Nat.le_of_ble_eq_true rfl) 0) ci_X11_answer qm_X11_174 ⟨Nat.le_of_ble_eq_true rfl, Nat.le_of_ble_eq_true rfl⟩ ⟨Nat.le_of_ble_eq_true rfl, Nat.le_of_ble_eq_true rfl⟩ [0] [1, 2, 3, 4] rfl rfl rfl rfl rfl (by decide) 0 rfl rfl rfl hl.1 rfl (Nat.le_of_ble_eq_true rfl) dX11_told_111 (fun u_10 H locs hφ hP hD hS => ?_)
            have hP : va_P D vwCl [((q 2), .inr (8, [.ref (q 20), .ref (q 21), .ref (q 22)])), ((q 20), .inr (5, [.ref (q 23), .ref (q 24), .ref (q 25), .int 0, .int 0, .int 0, .int 0])), ((q 21), .inr (0, [.ref (q 26), .ref (q 27), .ref (q 28), .ref (q 29), .int 0, .int 0])), ((q 26), .inl (k 1, 401, .inl (fun _ => 0)))] H := hP
            have hD : va_D A [((q 2), .inr (8, [.ref (q 20), .ref (q 21), .ref (q 22)])), ((q 20), .inr (5, [.ref (q 23), .ref (q 24), .ref (q 25), .int 0, .int 0, .int 0, .int 0])), ((q 21), .inr (0, [.ref (q 26), .ref (q 27), .ref (q 28), .ref (q 29), .int 0, .int 0])), ((q 26), .inl (k 1, 401, .inl (fun _ => 0)))] := hD
            refine W.eq (g2 := F0 m 114 ls [.int 0]) rfl ?_
            exact EWi hx hb hr hlocks hS () (by rw [show inA a 5 = 0 by rw [c_9]; decide +kernel]) trivial nil_P nil_D dX11_told_114
          ·
            rcases Classical.em (a = 5) with c_11 | c_11
            ·
              refine lv_tableIn (tgt := 115) (off := 114) hx hb dX11_told_1 (by rw [c_11]; decide) (by rw [c_11]; decide) (by rw [c_11]; rfl) (by decide) ?_
              refine lv_aload_n hx hb dX11_told_115 rfl (lv_at hl 0 rfl) ?_
              refine lv_aload_n hx hb dX11_told_116 rfl (lv_at hl 0 rfl) ?_
              refine va_get (D := D) (ci := 11) (v := .ref (q 2)) (C := RX11) (T := TX11) (N := 16) hx hb hts iX11 hown hK hP 0 rfl rfl 1 (by decide) (hts _ qf_X11_18) (fun _ h => h) rfl dX11_told_117 ?_
              refine va_get (D := D) (ci := 8) (v := .ref (q 21)) (C := RX8) (T := TX8) (N := 3) hx hb hts iX8 hown hK hP 1 rfl rfl 1 (by decide) (hts _ qf_X11_205) (fun _ h => h) rfl dX11_told_120 ?_
              refine CRV (As := []) (rest := [.ref (q 0)]) hx hb hml hown hts hKK (hP.sub (ws' := [((q 21), .inr (0, [.ref (q 26), .ref (q 27), .ref (q 28), .ref (q 29), .int 0, .int 0])), ((q 26), .inl (k 1, 401, .inl (fun _ => 0)))]) [3, 4] rfl) (c_wornNow l D k q) ci_X0_wornNow qm_X11_217 ⟨Nat.le_of_ble_eq_true rfl, Nat.le_of_ble_eq_true rfl⟩ ⟨Nat.le_of_ble_eq_true rfl, Nat.le_of_ble_eq_true rfl⟩ 0 rfl rfl rfl hl.1 rfl (Nat.le_of_ble_eq_true rfl) dX11_told_123 ?_
              refine CWV (As := [.int 0]) (rest := []) (wc := [((q 0), .inr (11, [.ref (q 1), .ref (q 2), .ref (q 3), .ref (q 4), .ref (q 5), .ref (q 6), .ref (q 7), .ref (q 8), .ref (q 9), .ref (q 10), .ref (q 11), .int 0, .int 0, .int 0, .long 0, .long 1]))]) (wr := [((q 2), .inr (8, [.ref (q 20), .ref (q 21), .ref (q 22)])), ((q 20), .inr (5, [.ref (q 23), .ref (q 24), .ref (q 25), .int 0, .int 0, .int 0, .int 0])), ((q 21), .inr (0, [.ref (q 26), .ref (q 27), .ref (q 28), .ref (q 29), .int 0, .int 0])), ((q 26), .inl (k 1, 401, .inl (fun _ => 0)))]) hx hb hml hown hts hKK hP hD hS hA (c_answer l D k (q 0) [.ref (q 1), .ref (q 2), .ref (q 3), .ref (q 4), .ref (q 5), .ref (q 6), .ref (q 7), .ref (q 8), .ref (q 9), .ref (q 10), .ref (q 11), .int 0, .int 0, .int 0, .long 0, .long 1] (Nat.le_of_ble_eq_true rfl) 0) ci_X11_answer qm_X11_174 ⟨Nat.le_of_ble_eq_true rfl, Nat.le_of_ble_eq_true rfl⟩ ⟨Nat.le_of_ble_eq_true rfl, Nat.le_of_ble_eq_true rfl⟩ [0] [1, 2, 3, 4] rfl rfl rfl rfl rfl (by decide) 0 rfl rfl rfl hl.1 rfl (Nat.le_of_ble_eq_true rfl) dX11_told_126 (fun u_12 H locs hφ hP hD hS => ?_)
              have hP : va_P D vwCl [((q 2), .inr (8, [.ref (q 20), .ref (q 21), .ref (q 22)])), ((q 20), .inr (5, [.ref (q 23), .ref (q 24), .ref (q 25), .int 0, .int 0, .int 0, .int 0])), ((q 21), .inr (0, [.ref (q 26), .ref (q 27), .ref (q 28), .ref (q 29), .int 0, .int 0])), ((q 26), .inl (k 1, 401, .inl (fun _ => 0)))] H := hP
              have hD : va_D A [((q 2), .inr (8, [.ref (q 20), .ref (q 21), .ref (q 22)])), ((q 20), .inr (5, [.ref (q 23), .ref (q 24), .ref (q 25), .int 0, .int 0, .int 0, .int 0])), ((q 21), .inr (0, [.ref (q 26), .ref (q 27), .ref (q 28), .ref (q 29), .int 0, .int 0])), ((q 26), .inl (k 1, 401, .inl (fun _ => 0)))] := hD
              refine W.eq (g2 := F0 m 129 ls [.int 0]) rfl ?_
              exact EWi hx hb hr hlocks hS () (by rw [show inA a 5 = 0 by rw [c_11]; decide +kernel]) trivial nil_P nil_D dX11_told_129
            ·
              refine lv_tableOut (tgt := 130) hx hb dX11_told_1 (by have hc_1 := lv_neT c_1 (a := 0) rfl; have hc_3 := lv_neT c_3 (a := 1) rfl; have hc_5 := lv_neT c_5 (a := 2) rfl; have hc_7 := lv_neT c_7 (a := 3) rfl; have hc_9 := lv_neT c_9 (a := 4) rfl; have hc_11 := lv_neT c_11 (a := 5) rfl; omega) (by decide) ?_
              refine lv_aload_n hx hb dX11_told_130 rfl (lv_at hl 0 rfl) ?_
              refine lv_iconst (v := 1) hx hb dX11_told_131 (by decide) ?_
              refine CWV (As := [.int 1]) (rest := []) (wc := [((q 0), .inr (11, [.ref (q 1), .ref (q 2), .ref (q 3), .ref (q 4), .ref (q 5), .ref (q 6), .ref (q 7), .ref (q 8), .ref (q 9), .ref (q 10), .ref (q 11), .int 0, .int 0, .int 0, .long 0, .long 1]))]) (wr := [((q 2), .inr (8, [.ref (q 20), .ref (q 21), .ref (q 22)])), ((q 20), .inr (5, [.ref (q 23), .ref (q 24), .ref (q 25), .int 0, .int 0, .int 0, .int 0])), ((q 21), .inr (0, [.ref (q 26), .ref (q 27), .ref (q 28), .ref (q 29), .int 0, .int 0])), ((q 26), .inl (k 1, 401, .inl (fun _ => 0)))]) hx hb hml hown hts hKK hP hD hS hA (c_refuse l D k (q 0) [.ref (q 1), .ref (q 2), .ref (q 3), .ref (q 4), .ref (q 5), .ref (q 6), .ref (q 7), .ref (q 8), .ref (q 9), .ref (q 10), .ref (q 11), .int 0, .int 0, .int 0, .long 0, .long 1] (Nat.le_of_ble_eq_true rfl) 1) ci_X11_refuse qm_X11_126 ⟨Nat.le_of_ble_eq_true rfl, Nat.le_of_ble_eq_true rfl⟩ ⟨Nat.le_of_ble_eq_true rfl, Nat.le_of_ble_eq_true rfl⟩ [0] [1, 2, 3, 4] rfl rfl rfl rfl rfl (by decide) 0 rfl rfl rfl hl.1 rfl (Nat.le_of_ble_eq_true rfl) dX11_told_132 (fun u_13 H locs hφ hP hD hS => ?_)
              have hP : va_P D vwCl [((q 2), .inr (8, [.ref (q 20), .ref (q 21), .ref (q 22)])), ((q 20), .inr (5, [.ref (q 23), .ref (q 24), .ref (q 25), .int 0, .int 0, .int 0, .int 0])), ((q 21), .inr (0, [.ref (q 26), .ref (q 27), .ref (q 28), .ref (q 29), .int 0, .int 0])), ((q 26), .inl (k 1, 401, .inl (fun _ => 0)))] H := hP
              have hD : va_D A [((q 2), .inr (8, [.ref (q 20), .ref (q 21), .ref (q 22)])), ((q 20), .inr (5, [.ref (q 23), .ref (q 24), .ref (q 25), .int 0, .int 0, .int 0, .int 0])), ((q 21), .inr (0, [.ref (q 26), .ref (q 27), .ref (q 28), .ref (q 29), .int 0, .int 0])), ((q 26), .inl (k 1, 401, .inl (fun _ => 0)))] := hD
              refine W.eq (g2 := F0 m 135 ls [.int (-1)]) rfl ?_
              exact EWi hx hb hr hlocks hS () (by rw [inA5 c_1 c_3 c_5 c_7 c_9 c_11]) trivial nil_P nil_D dX11_told_135
set_option maxHeartbeats 4000000 in
set_option maxRecDepth 100000 in
theorem p_span (l : Launch) (D : va_G) (k : Nat → ClassId) (q : Nat → Nat) (a : Int32) : WD (σ := Unit) l yX11_span cX11_span 5 (some .int) 8 0 0 D k [.ref (q 0), .int a] [((q 0), .inr (11, [.ref (q 1), .ref (q 2), .ref (q 3), .ref (q 4), .ref (q 5), .ref (q 6), .ref (q 7), .ref (q 8), .ref (q 9), .ref (q 10), .ref (q 11), .int 0, .int 0, .int 0, .long 0, .long 1])), ((q 2), .inr (8, [.ref (q 20), .ref (q 21), .ref (q 22)])), ((q 20), .inr (5, [.ref (q 23), .ref (q 24), .ref (q 25), .int 0, .int 0, .int 0, .int 0])), ((q 21), .inr (0, [.ref (q 26), .ref (q 27), .ref (q 28), .ref (q 29), .int 0, .int 0]))] (fun _ => some (.int (inA a 500))) (fun _ => True) (fun _ => []) := by
  refine MW (by decide) (Nat.le_of_ble_eq_true rfl) (fun p e s m below meth c ls A hx hb hml hr hlocks hin hts hown hKK hP hD hS hA hl => ?_)
  have hK := hKK.1
  have hl : lv_has ls 5 [(0, .ref (q 0)), (1, .int a)] := hl
  refine lv_iload_n hx hb dX11_span_0 rfl (lv_at hl 1 rfl) ?_
  refine lv_sipush (v := 500) hx hb dX11_span_1 (by decide) ?_
  refine CRS (As := [.int a, .int 500]) (rest := []) hx hb hml hown hts hKK (hP.sub (ws' := []) [] rfl) (c_isWithin l D k a 500) ci_X11_isWithin qm_X11_103 ⟨Nat.le_of_ble_eq_true rfl, Nat.le_of_ble_eq_true rfl⟩ ⟨Nat.le_of_ble_eq_true rfl, Nat.le_of_ble_eq_true rfl⟩ rfl hl.1 rfl (Nat.le_of_ble_eq_true rfl) dX11_span_4 ?_
  refine lv_if_ne (tgt := 16) hx hb dX11_span_7 (by decide) (fun c_1 => ?_) (fun c_1 => ?_)
  ·
    refine lv_iconst (v := 0) hx hb dX11_span_16 (by decide) ?_
    refine lv_istore_n (lv' := [(2, .int 0), (0, .ref (q 0)), (1, .int a)]) hx hb dX11_span_17 rfl hl (by decide) rfl (fun ls hl => ?_)
    refine lv_iconst (v := 0) hx hb dX11_span_18 (by decide) ?_
    refine lv_istore_n (lv' := [(3, .int 0), (2, .int 0), (0, .ref (q 0)), (1, .int a)]) hx hb dX11_span_19 rfl hl (by decide) rfl (fun ls hl => ?_)
    refine lv_iload_n hx hb dX11_span_20 rfl (lv_at hl 0 rfl) ?_
    refine lv_aload_n hx hb dX11_span_21 rfl (lv_at hl 2 rfl) ?_
    refine va_get (D := D) (ci := 11) (v := .ref (q 2)) (C := RX11) (T := TX11) (N := 16) hx hb hts iX11 hown hK hP 0 rfl rfl 1 (by decide) (hts _ qf_X11_18) (fun _ h => h) rfl dX11_span_22 ?_
    refine va_get (D := D) (ci := 8) (v := .ref (q 20)) (C := RX8) (T := TX8) (N := 3) hx hb hts iX8 hown hK hP 1 rfl rfl 0 (by decide) (hts _ qf_X11_54) (fun _ h => h) rfl dX11_span_25 ?_
    refine va_get (D := D) (ci := 5) (v := .int 0) (C := RX5) (T := TX5) (N := 7) hx hb hts iX5 hown hK hP 2 rfl rfl 3 (by decide) (hts _ qf_X11_169) (fun _ h => h) rfl dX11_span_28 ?_
    refine lv_icmp_ge (tgt := 86) hx hb dX11_span_31 (by decide) (fun _ => ?_) (fun c => absurd (by decide) c)
    refine lv_aload_n hx hb dX11_span_86 rfl (lv_at hl 2 rfl) ?_
    refine lv_iload_n hx hb dX11_span_87 rfl (lv_at hl 1 rfl) ?_
    refine CWV (As := [.int 0]) (rest := []) (wc := [((q 0), .inr (11, [.ref (q 1), .ref (q 2), .ref (q 3), .ref (q 4), .ref (q 5), .ref (q 6), .ref (q 7), .ref (q 8), .ref (q 9), .ref (q 10), .ref (q 11), .int 0, .int 0, .int 0, .long 0, .long 1]))]) (wr := [((q 2), .inr (8, [.ref (q 20), .ref (q 21), .ref (q 22)])), ((q 20), .inr (5, [.ref (q 23), .ref (q 24), .ref (q 25), .int 0, .int 0, .int 0, .int 0])), ((q 21), .inr (0, [.ref (q 26), .ref (q 27), .ref (q 28), .ref (q 29), .int 0, .int 0]))]) hx hb hml hown hts hKK hP hD hS hA (c_answer l D k (q 0) [.ref (q 1), .ref (q 2), .ref (q 3), .ref (q 4), .ref (q 5), .ref (q 6), .ref (q 7), .ref (q 8), .ref (q 9), .ref (q 10), .ref (q 11), .int 0, .int 0, .int 0, .long 0, .long 1] (Nat.le_of_ble_eq_true rfl) 0) ci_X11_answer qm_X11_174 ⟨Nat.le_of_ble_eq_true rfl, Nat.le_of_ble_eq_true rfl⟩ ⟨Nat.le_of_ble_eq_true rfl, Nat.le_of_ble_eq_true rfl⟩ [0] [1, 2, 3] rfl rfl rfl rfl rfl (by decide) 0 rfl rfl rfl hl.1 rfl (Nat.le_of_ble_eq_true rfl) dX11_span_88 (fun u_2 H locs hφ hP hD hS => ?_)
    have hP : va_P D vwCl [((q 2), .inr (8, [.ref (q 20), .ref (q 21), .ref (q 22)])), ((q 20), .inr (5, [.ref (q 23), .ref (q 24), .ref (q 25), .int 0, .int 0, .int 0, .int 0])), ((q 21), .inr (0, [.ref (q 26), .ref (q 27), .ref (q 28), .ref (q 29), .int 0, .int 0]))] H := hP
    have hD : va_D A [((q 2), .inr (8, [.ref (q 20), .ref (q 21), .ref (q 22)])), ((q 20), .inr (5, [.ref (q 23), .ref (q 24), .ref (q 25), .int 0, .int 0, .int 0, .int 0])), ((q 21), .inr (0, [.ref (q 26), .ref (q 27), .ref (q 28), .ref (q 29), .int 0, .int 0]))] := hD
    refine W.eq (g2 := F0 m 91 ls [.int 0]) rfl ?_
    exact EWi hx hb hr hlocks hS () (by simp [inA, c_1]) trivial nil_P nil_D dX11_span_91
  ·
    refine lv_aload_n hx hb dX11_span_10 rfl (lv_at hl 0 rfl) ?_
    refine lv_iconst (v := 1) hx hb dX11_span_11 (by decide) ?_
    refine CWV (As := [.int 1]) (rest := []) (wc := [((q 0), .inr (11, [.ref (q 1), .ref (q 2), .ref (q 3), .ref (q 4), .ref (q 5), .ref (q 6), .ref (q 7), .ref (q 8), .ref (q 9), .ref (q 10), .ref (q 11), .int 0, .int 0, .int 0, .long 0, .long 1]))]) (wr := [((q 2), .inr (8, [.ref (q 20), .ref (q 21), .ref (q 22)])), ((q 20), .inr (5, [.ref (q 23), .ref (q 24), .ref (q 25), .int 0, .int 0, .int 0, .int 0])), ((q 21), .inr (0, [.ref (q 26), .ref (q 27), .ref (q 28), .ref (q 29), .int 0, .int 0]))]) hx hb hml hown hts hKK hP hD hS hA (c_refuse l D k (q 0) [.ref (q 1), .ref (q 2), .ref (q 3), .ref (q 4), .ref (q 5), .ref (q 6), .ref (q 7), .ref (q 8), .ref (q 9), .ref (q 10), .ref (q 11), .int 0, .int 0, .int 0, .long 0, .long 1] (Nat.le_of_ble_eq_true rfl) 1) ci_X11_refuse qm_X11_126 ⟨Nat.le_of_ble_eq_true rfl, Nat.le_of_ble_eq_true rfl⟩ ⟨Nat.le_of_ble_eq_true rfl, Nat.le_of_ble_eq_true rfl⟩ [0] [1, 2, 3] rfl rfl rfl rfl rfl (by decide) 0 rfl rfl rfl hl.1 rfl (Nat.le_of_ble_eq_true rfl) dX11_span_12 (fun u_3 H locs hφ hP hD hS => ?_)
    have hP : va_P D vwCl [((q 2), .inr (8, [.ref (q 20), .ref (q 21), .ref (q 22)])), ((q 20), .inr (5, [.ref (q 23), .ref (q 24), .ref (q 25), .int 0, .int 0, .int 0, .int 0])), ((q 21), .inr (0, [.ref (q 26), .ref (q 27), .ref (q 28), .ref (q 29), .int 0, .int 0]))] H := hP
    have hD : va_D A [((q 2), .inr (8, [.ref (q 20), .ref (q 21), .ref (q 22)])), ((q 20), .inr (5, [.ref (q 23), .ref (q 24), .ref (q 25), .int 0, .int 0, .int 0, .int 0])), ((q 21), .inr (0, [.ref (q 26), .ref (q 27), .ref (q 28), .ref (q 29), .int 0, .int 0]))] := hD
    refine W.eq (g2 := F0 m 15 ls [.int (-1)]) rfl ?_
    exact EWi hx hb hr hlocks hS () (by simp [inA, c_1]) trivial nil_P nil_D dX11_span_15
set_option maxHeartbeats 4000000 in
set_option maxRecDepth 100000 in
theorem c_bit0 (l : Launch) (D : va_G) (k : Nat → ClassId)  : RD l yJ6_bitCount_0f7a4 cJ6_bitCount_0f7a4 1 (some .int) 0 D k [.int 0] [] 0 := by
  refine MR (by decide) (Nat.le_of_ble_eq_true rfl) (fun p e s m below meth c ls hx hb hml hr hlocks hts hown hKK hP hl => ?_)
  have hK := hKK.1
  have hl : lv_has ls 1 [(0, .int 0)] := hl
  refine lv_iload_n hx hb dJ6_bitCount_0f7a4_0 rfl (lv_at hl 0 rfl) ?_
  refine lv_iload_n hx hb dJ6_bitCount_0f7a4_1 rfl (lv_at hl 0 rfl) ?_
  refine lv_iconst (v := 1) hx hb dJ6_bitCount_0f7a4_2 (by decide) ?_
  refine lv_iushr (v := 0) hx hb dJ6_bitCount_0f7a4_3 (by decide +kernel) ?_
  refine lv_ldcw (own := RJ6) (v := 1431655765) hx hb hown (hts _ qk_J6_265) dJ6_bitCount_0f7a4_4 ?_
  refine lv_iand hx hb dJ6_bitCount_0f7a4_7 ?_
  refine lv_topi (fun x_1 ex_1 => ?_)
  obtain rfl : x_1 = 0 := ex_1.trans (by decide +kernel)
  refine lv_isub hx hb dJ6_bitCount_0f7a4_8 ?_
  refine lv_topi (fun x_2 ex_2 => ?_)
  obtain rfl : x_2 = 0 := ex_2.trans (by decide +kernel)
  refine lv_istore_n (lv' := [(0, .int 0)]) hx hb dJ6_bitCount_0f7a4_9 rfl hl (by decide) rfl (fun ls hl => ?_)
  refine lv_iload_n hx hb dJ6_bitCount_0f7a4_10 rfl (lv_at hl 0 rfl) ?_
  refine lv_ldcw (own := RJ6) (v := 858993459) hx hb hown (hts _ qk_J6_266) dJ6_bitCount_0f7a4_11 ?_
  refine lv_iand hx hb dJ6_bitCount_0f7a4_14 ?_
  refine lv_topi (fun x_3 ex_3 => ?_)
  obtain rfl : x_3 = 0 := ex_3.trans (by decide +kernel)
  refine lv_iload_n hx hb dJ6_bitCount_0f7a4_15 rfl (lv_at hl 0 rfl) ?_
  refine lv_iconst (v := 2) hx hb dJ6_bitCount_0f7a4_16 (by decide) ?_
  refine lv_iushr (v := 0) hx hb dJ6_bitCount_0f7a4_17 (by decide +kernel) ?_
  refine lv_ldcw (own := RJ6) (v := 858993459) hx hb hown (hts _ qk_J6_266) dJ6_bitCount_0f7a4_18 ?_
  refine lv_iand hx hb dJ6_bitCount_0f7a4_21 ?_
  refine lv_topi (fun x_4 ex_4 => ?_)
  obtain rfl : x_4 = 0 := ex_4.trans (by decide +kernel)
  refine lv_iadd hx hb dJ6_bitCount_0f7a4_22 ?_
  refine lv_topi (fun x_5 ex_5 => ?_)
  obtain rfl : x_5 = 0 := ex_5.trans (by decide +kernel)
  refine lv_istore_n (lv' := [(0, .int 0)]) hx hb dJ6_bitCount_0f7a4_23 rfl hl (by decide) rfl (fun ls hl => ?_)
  refine lv_iload_n hx hb dJ6_bitCount_0f7a4_24 rfl (lv_at hl 0 rfl) ?_
  refine lv_iload_n hx hb dJ6_bitCount_0f7a4_25 rfl (lv_at hl 0 rfl) ?_
  refine lv_iconst (v := 4) hx hb dJ6_bitCount_0f7a4_26 (by decide) ?_
  refine lv_iushr (v := 0) hx hb dJ6_bitCount_0f7a4_27 (by decide +kernel) ?_
  refine lv_iadd hx hb dJ6_bitCount_0f7a4_28 ?_
  refine lv_topi (fun x_6 ex_6 => ?_)
  obtain rfl : x_6 = 0 := ex_6.trans (by decide +kernel)
  refine lv_ldcw (own := RJ6) (v := 252645135) hx hb hown (hts _ qk_J6_267) dJ6_bitCount_0f7a4_29 ?_
  refine lv_iand hx hb dJ6_bitCount_0f7a4_32 ?_
  refine lv_topi (fun x_7 ex_7 => ?_)
  obtain rfl : x_7 = 0 := ex_7.trans (by decide +kernel)
  refine lv_istore_n (lv' := [(0, .int 0)]) hx hb dJ6_bitCount_0f7a4_33 rfl hl (by decide) rfl (fun ls hl => ?_)
  refine lv_iload_n hx hb dJ6_bitCount_0f7a4_34 rfl (lv_at hl 0 rfl) ?_
  refine lv_iload_n hx hb dJ6_bitCount_0f7a4_35 rfl (lv_at hl 0 rfl) ?_
  refine lv_bipush (v := 8) hx hb dJ6_bitCount_0f7a4_36 (by decide) ?_
  refine lv_iushr (v := 0) hx hb dJ6_bitCount_0f7a4_38 (by decide +kernel) ?_
  refine lv_iadd hx hb dJ6_bitCount_0f7a4_39 ?_
  refine lv_topi (fun x_8 ex_8 => ?_)
  obtain rfl : x_8 = 0 := ex_8.trans (by decide +kernel)
  refine lv_istore_n (lv' := [(0, .int 0)]) hx hb dJ6_bitCount_0f7a4_40 rfl hl (by decide) rfl (fun ls hl => ?_)
  refine lv_iload_n hx hb dJ6_bitCount_0f7a4_41 rfl (lv_at hl 0 rfl) ?_
  refine lv_iload_n hx hb dJ6_bitCount_0f7a4_42 rfl (lv_at hl 0 rfl) ?_
  refine lv_bipush (v := 16) hx hb dJ6_bitCount_0f7a4_43 (by decide) ?_
  refine lv_iushr (v := 0) hx hb dJ6_bitCount_0f7a4_45 (by decide +kernel) ?_
  refine lv_iadd hx hb dJ6_bitCount_0f7a4_46 ?_
  refine lv_topi (fun x_9 ex_9 => ?_)
  obtain rfl : x_9 = 0 := ex_9.trans (by decide +kernel)
  refine lv_istore_n (lv' := [(0, .int 0)]) hx hb dJ6_bitCount_0f7a4_47 rfl hl (by decide) rfl (fun ls hl => ?_)
  refine lv_iload_n hx hb dJ6_bitCount_0f7a4_48 rfl (lv_at hl 0 rfl) ?_
  refine lv_bipush (v := 63) hx hb dJ6_bitCount_0f7a4_49 (by decide) ?_
  refine lv_iand hx hb dJ6_bitCount_0f7a4_51 ?_
  refine lv_topi (fun x_10 ex_10 => ?_)
  obtain rfl : x_10 = 0 := ex_10.trans (by decide +kernel)
  exact ERi hx hb hr hlocks rfl dJ6_bitCount_0f7a4_52
set_option maxHeartbeats 4000000 in
set_option maxRecDepth 100000 in
theorem p_idle (l : Launch) (D : va_G) (k : Nat → ClassId) (q : Nat → Nat) : WD (σ := Unit) l yX11_idle cX11_idle 6 (some .int) 8 0 0 D k [.ref (q 0)] [((q 0), .inr (11, [.ref (q 1), .ref (q 2), .ref (q 3), .ref (q 4), .ref (q 5), .ref (q 6), .ref (q 7), .ref (q 8), .ref (q 9), .ref (q 10), .ref (q 11), .int 0, .int 0, .int 0, .long 0, .long 1])), ((q 2), .inr (8, [.ref (q 20), .ref (q 21), .ref (q 22)])), ((q 20), .inr (5, [.ref (q 23), .ref (q 24), .ref (q 25), .int 0, .int 0, .int 0, .int 0])), ((q 21), .inr (0, [.ref (q 26), .ref (q 27), .ref (q 28), .ref (q 29), .int 0, .int 0]))] (fun _ => some (.int 0)) (fun _ => True) (fun _ => []) := by
  refine MW (by decide) (Nat.le_of_ble_eq_true rfl) (fun p e s m below meth c ls A hx hb hml hr hlocks hin hts hown hKK hP hD hS hA hl => ?_)
  have hK := hKK.1
  have hl : lv_has ls 6 [(0, .ref (q 0))] := hl
  refine lv_aload_n hx hb dX11_idle_0 rfl (lv_at hl 0 rfl) ?_
  refine va_get (D := D) (ci := 11) (v := .ref (q 2)) (C := RX11) (T := TX11) (N := 16) hx hb hts iX11 hown hK hP 0 rfl rfl 1 (by decide) (hts _ qf_X11_18) (fun _ h => h) rfl dX11_idle_1 ?_
  refine va_get (D := D) (ci := 8) (v := .ref (q 21)) (C := RX8) (T := TX8) (N := 3) hx hb hts iX8 hown hK hP 1 rfl rfl 1 (by decide) (hts _ qf_X11_205) (fun _ h => h) rfl dX11_idle_4 ?_
  refine lv_astore_n (lv' := [(1, .ref (q 21)), (0, .ref (q 0))]) hx hb dX11_idle_7 rfl hl (by decide) rfl (fun ls hl => ?_)
  refine lv_iconst (v := 0) hx hb dX11_idle_8 (by decide) ?_
  refine lv_istore_n (lv' := [(2, .int 0), (1, .ref (q 21)), (0, .ref (q 0))]) hx hb dX11_idle_9 rfl hl (by decide) rfl (fun ls hl => ?_)
  refine lv_iconst (v := 0) hx hb dX11_idle_10 (by decide) ?_
  refine lv_istore_n (lv' := [(3, .int 0), (2, .int 0), (1, .ref (q 21)), (0, .ref (q 0))]) hx hb dX11_idle_11 rfl hl (by decide) rfl (fun ls hl => ?_)
  refine lv_iload_n hx hb dX11_idle_12 rfl (lv_at hl 0 rfl) ?_
  refine lv_aload_n hx hb dX11_idle_13 rfl (lv_at hl 3 rfl) ?_
  refine va_get (D := D) (ci := 11) (v := .ref (q 2)) (C := RX11) (T := TX11) (N := 16) hx hb hts iX11 hown hK hP 0 rfl rfl 1 (by decide) (hts _ qf_X11_18) (fun _ h => h) rfl dX11_idle_14 ?_
  refine va_get (D := D) (ci := 8) (v := .ref (q 20)) (C := RX8) (T := TX8) (N := 3) hx hb hts iX8 hown hK hP 1 rfl rfl 0 (by decide) (hts _ qf_X11_54) (fun _ h => h) rfl dX11_idle_17 ?_
  refine va_get (D := D) (ci := 5) (v := .int 0) (C := RX5) (T := TX5) (N := 7) hx hb hts iX5 hown hK hP 2 rfl rfl 3 (by decide) (hts _ qf_X11_169) (fun _ h => h) rfl dX11_idle_20 ?_
  refine lv_icmp_ge (tgt := 80) hx hb dX11_idle_23 (by decide) (fun _ => ?_) (fun c => absurd (by decide) c)
  refine lv_aload_n hx hb dX11_idle_80 rfl (lv_at hl 3 rfl) ?_
  refine lv_aload_n hx hb dX11_idle_81 rfl (lv_at hl 2 rfl) ?_
  refine va_get (D := D) (ci := 0) (v := .int 0) (C := RX0) (T := TX0) (N := 6) hx hb hts iX0 hown hK hP 3 rfl rfl 5 (by decide) (hts _ qf_X11_214) (fun _ h => h) rfl dX11_idle_82 ?_
  refine lv_iload_n hx hb dX11_idle_85 rfl (lv_at hl 1 rfl) ?_
  refine CRS (As := [.int 0]) (rest := [.int 0, .ref (q 0)]) hx hb hml hown hts hKK (hP.sub (ws' := []) [] rfl) (c_bit0 l D k) ci_J6_bitCount_0f7a4 qm_X11_323 ⟨Nat.le_of_ble_eq_true rfl, Nat.le_of_ble_eq_true rfl⟩ ⟨Nat.le_of_ble_eq_true rfl, Nat.le_of_ble_eq_true rfl⟩ rfl hl.1 rfl (Nat.le_of_ble_eq_true rfl) dX11_idle_86 ?_
  refine lv_isub hx hb dX11_idle_89 ?_
  refine lv_topi (fun x_1 ex_1 => ?_)
  obtain rfl : x_1 = 0 := ex_1.trans (by decide +kernel)
  refine CWV (As := [.int 0]) (rest := []) (wc := [((q 0), .inr (11, [.ref (q 1), .ref (q 2), .ref (q 3), .ref (q 4), .ref (q 5), .ref (q 6), .ref (q 7), .ref (q 8), .ref (q 9), .ref (q 10), .ref (q 11), .int 0, .int 0, .int 0, .long 0, .long 1]))]) (wr := [((q 2), .inr (8, [.ref (q 20), .ref (q 21), .ref (q 22)])), ((q 20), .inr (5, [.ref (q 23), .ref (q 24), .ref (q 25), .int 0, .int 0, .int 0, .int 0])), ((q 21), .inr (0, [.ref (q 26), .ref (q 27), .ref (q 28), .ref (q 29), .int 0, .int 0]))]) hx hb hml hown hts hKK hP hD hS hA (c_answer l D k (q 0) [.ref (q 1), .ref (q 2), .ref (q 3), .ref (q 4), .ref (q 5), .ref (q 6), .ref (q 7), .ref (q 8), .ref (q 9), .ref (q 10), .ref (q 11), .int 0, .int 0, .int 0, .long 0, .long 1] (Nat.le_of_ble_eq_true rfl) 0) ci_X11_answer qm_X11_174 ⟨Nat.le_of_ble_eq_true rfl, Nat.le_of_ble_eq_true rfl⟩ ⟨Nat.le_of_ble_eq_true rfl, Nat.le_of_ble_eq_true rfl⟩ [0] [1, 2, 3] rfl rfl rfl rfl rfl (by decide) 0 rfl rfl rfl hl.1 rfl (Nat.le_of_ble_eq_true rfl) dX11_idle_90 (fun u_2 H locs hφ hP hD hS => ?_)
  have hP : va_P D vwCl [((q 2), .inr (8, [.ref (q 20), .ref (q 21), .ref (q 22)])), ((q 20), .inr (5, [.ref (q 23), .ref (q 24), .ref (q 25), .int 0, .int 0, .int 0, .int 0])), ((q 21), .inr (0, [.ref (q 26), .ref (q 27), .ref (q 28), .ref (q 29), .int 0, .int 0]))] H := hP
  have hD : va_D A [((q 2), .inr (8, [.ref (q 20), .ref (q 21), .ref (q 22)])), ((q 20), .inr (5, [.ref (q 23), .ref (q 24), .ref (q 25), .int 0, .int 0, .int 0, .int 0])), ((q 21), .inr (0, [.ref (q 26), .ref (q 27), .ref (q 28), .ref (q 29), .int 0, .int 0]))] := hD
  refine W.eq (g2 := F0 m 93 ls [.int 0]) rfl ?_
  exact EWi hx hb hr hlocks hS () rfl trivial nil_P nil_D dX11_idle_93
set_option maxHeartbeats 4000000 in
set_option maxRecDepth 100000 in
theorem p_uniform (l : Launch) (D : va_G) (k : Nat → ClassId) (q : Nat → Nat) : WD (σ := Unit) l yX11_uniform cX11_uniform 5 (some .int) 8 0 0 D k [.ref (q 0)] [((q 0), .inr (11, [.ref (q 1), .ref (q 2), .ref (q 3), .ref (q 4), .ref (q 5), .ref (q 6), .ref (q 7), .ref (q 8), .ref (q 9), .ref (q 10), .ref (q 11), .int 0, .int 0, .int 0, .long 0, .long 1])), ((q 2), .inr (8, [.ref (q 20), .ref (q 21), .ref (q 22)])), ((q 20), .inr (5, [.ref (q 23), .ref (q 24), .ref (q 25), .int 0, .int 0, .int 0, .int 0])), ((q 21), .inr (0, [.ref (q 26), .ref (q 27), .ref (q 28), .ref (q 29), .int 0, .int 0])), ((q 26), .inl (k 1, 401, .inl (fun _ => 0)))] (fun _ => some (.int 1)) (fun _ => True) (fun _ => []) := by
  refine MW (by decide) (Nat.le_of_ble_eq_true rfl) (fun p e s m below meth c ls A hx hb hml hr hlocks hin hts hown hKK hP hD hS hA hl => ?_)
  have hK := hKK.1
  have hl : lv_has ls 5 [(0, .ref (q 0))] := hl
  refine lv_aload_n hx hb dX11_uniform_0 rfl (lv_at hl 0 rfl) ?_
  refine va_get (D := D) (ci := 11) (v := .ref (q 2)) (C := RX11) (T := TX11) (N := 16) hx hb hts iX11 hown hK hP 0 rfl rfl 1 (by decide) (hts _ qf_X11_18) (fun _ h => h) rfl dX11_uniform_1 ?_
  refine va_get (D := D) (ci := 8) (v := .ref (q 21)) (C := RX8) (T := TX8) (N := 3) hx hb hts iX8 hown hK hP 1 rfl rfl 1 (by decide) (hts _ qf_X11_205) (fun _ h => h) rfl dX11_uniform_4 ?_
  refine lv_astore_n (lv' := [(1, .ref (q 21)), (0, .ref (q 0))]) hx hb dX11_uniform_7 rfl hl (by decide) rfl (fun ls hl => ?_)
  refine lv_iconst (v := 1) hx hb dX11_uniform_8 (by decide) ?_
  refine lv_aload_n hx hb dX11_uniform_9 rfl (lv_at hl 1 rfl) ?_
  refine va_get (D := D) (ci := 11) (v := .ref (q 2)) (C := RX11) (T := TX11) (N := 16) hx hb hts iX11 hown hK hP 0 rfl rfl 1 (by decide) (hts _ qf_X11_18) (fun _ h => h) rfl dX11_uniform_10 ?_
  refine va_get (D := D) (ci := 8) (v := .ref (q 20)) (C := RX8) (T := TX8) (N := 3) hx hb hts iX8 hown hK hP 1 rfl rfl 0 (by decide) (hts _ qf_X11_54) (fun _ h => h) rfl dX11_uniform_13 ?_
  refine va_get (D := D) (ci := 5) (v := .int 0) (C := RX5) (T := TX5) (N := 7) hx hb hts iX5 hown hK hP 2 rfl rfl 3 (by decide) (hts _ qf_X11_169) (fun _ h => h) rfl dX11_uniform_16 ?_
  refine lv_ishl hx hb dX11_uniform_19 ?_
  refine lv_topi (fun x_1 ex_1 => ?_)
  obtain rfl : x_1 = 1 := ex_1.trans (by decide +kernel)
  refine lv_iconst (v := 1) hx hb dX11_uniform_20 (by decide) ?_
  refine lv_isub hx hb dX11_uniform_21 ?_
  refine lv_topi (fun x_2 ex_2 => ?_)
  obtain rfl : x_2 = 0 := ex_2.trans (by decide +kernel)
  refine lv_istore_n (lv' := [(2, .int 0), (1, .ref (q 21)), (0, .ref (q 0))]) hx hb dX11_uniform_22 rfl hl (by decide) rfl (fun ls hl => ?_)
  refine lv_iconst (v := 0) hx hb dX11_uniform_23 (by decide) ?_
  refine lv_istore_n (lv' := [(3, .int 0), (2, .int 0), (1, .ref (q 21)), (0, .ref (q 0))]) hx hb dX11_uniform_24 rfl hl (by decide) rfl (fun ls hl => ?_)
  refine lv_iconst (v := 0) hx hb dX11_uniform_25 (by decide) ?_
  refine lv_istore (lv' := [(4, .int 0), (3, .int 0), (2, .int 0), (1, .ref (q 21)), (0, .ref (q 0))]) hx hb dX11_uniform_26 hl (by decide) rfl (fun ls hl => ?_)
  refine lv_iload hx hb dX11_uniform_28 (lv_at hl 0 rfl) ?_
  refine lv_aload_n hx hb dX11_uniform_30 rfl (lv_at hl 3 rfl) ?_
  refine va_get (D := D) (ci := 0) (v := .int 0) (C := RX0) (T := TX0) (N := 6) hx hb hts iX0 hown hK hP 3 rfl rfl 4 (by decide) (hts _ qf_X11_209) (fun _ h => h) rfl dX11_uniform_31 ?_
  refine lv_icmp_gt (tgt := 67) hx hb dX11_uniform_34 (by decide) (fun c => absurd c (by decide)) (fun _ => ?_)
  refine lv_aload_n hx hb dX11_uniform_37 rfl (lv_at hl 3 rfl) ?_
  refine va_get (D := D) (ci := 0) (v := .ref (q 26)) (C := RX0) (T := TX0) (N := 6) hx hb hts iX0 hown hK hP 3 rfl rfl 0 (by decide) (hts _ qf_X11_359) (fun _ h => h) rfl dX11_uniform_38 ?_
  refine lv_iload hx hb dX11_uniform_41 (lv_at hl 0 rfl) ?_
  refine va_iald hx hb hK hP 4 1 rfl rfl (xin 0 401 rfl (by decide) (by decide)) dX11_uniform_43 ?_
  refine lv_topi (fun x_3 ex_3 => ?_)
  obtain rfl : x_3 = 0 := ex_3.trans (by decide +kernel)
  refine lv_if_eq (tgt := 58) hx hb dX11_uniform_44 (by decide) (fun _ => ?_) (fun c => absurd (by decide) c)
  refine lv_iinc (v := 1) (lv' := [(3, .int 1), (4, .int 0), (2, .int 0), (1, .ref (q 21)), (0, .ref (q 0))]) hx hb dX11_uniform_58 hl (k := 1) rfl (by decide +kernel) (by decide) rfl (fun ls hl => ?_)
  refine lv_iinc (v := 1) (lv' := [(4, .int 1), (3, .int 1), (2, .int 0), (1, .ref (q 21)), (0, .ref (q 0))]) hx hb dX11_uniform_61 hl (k := 1) rfl (by decide +kernel) (by decide) rfl (fun ls hl => ?_)
  refine lv_goto (tgt := 28) hx hb dX11_uniform_64 (by decide) ?_
  refine lv_iload hx hb dX11_uniform_28 (lv_at hl 0 rfl) ?_
  refine lv_aload_n hx hb dX11_uniform_30 rfl (lv_at hl 3 rfl) ?_
  refine va_get (D := D) (ci := 0) (v := .int 0) (C := RX0) (T := TX0) (N := 6) hx hb hts iX0 hown hK hP 3 rfl rfl 4 (by decide) (hts _ qf_X11_209) (fun _ h => h) rfl dX11_uniform_31 ?_
  refine lv_icmp_gt (tgt := 67) hx hb dX11_uniform_34 (by decide) (fun _ => ?_) (fun c => absurd (by decide) c)
  refine lv_aload_n hx hb dX11_uniform_67 rfl (lv_at hl 4 rfl) ?_
  refine lv_iload_n hx hb dX11_uniform_68 rfl (lv_at hl 1 rfl) ?_
  refine CWV (As := [.int 1]) (rest := []) (wc := [((q 0), .inr (11, [.ref (q 1), .ref (q 2), .ref (q 3), .ref (q 4), .ref (q 5), .ref (q 6), .ref (q 7), .ref (q 8), .ref (q 9), .ref (q 10), .ref (q 11), .int 0, .int 0, .int 0, .long 0, .long 1]))]) (wr := [((q 2), .inr (8, [.ref (q 20), .ref (q 21), .ref (q 22)])), ((q 20), .inr (5, [.ref (q 23), .ref (q 24), .ref (q 25), .int 0, .int 0, .int 0, .int 0])), ((q 21), .inr (0, [.ref (q 26), .ref (q 27), .ref (q 28), .ref (q 29), .int 0, .int 0])), ((q 26), .inl (k 1, 401, .inl (fun _ => 0)))]) hx hb hml hown hts hKK hP hD hS hA (c_answer l D k (q 0) [.ref (q 1), .ref (q 2), .ref (q 3), .ref (q 4), .ref (q 5), .ref (q 6), .ref (q 7), .ref (q 8), .ref (q 9), .ref (q 10), .ref (q 11), .int 0, .int 0, .int 0, .long 0, .long 1] (Nat.le_of_ble_eq_true rfl) 1) ci_X11_answer qm_X11_174 ⟨Nat.le_of_ble_eq_true rfl, Nat.le_of_ble_eq_true rfl⟩ ⟨Nat.le_of_ble_eq_true rfl, Nat.le_of_ble_eq_true rfl⟩ [0] [1, 2, 3, 4] rfl rfl rfl rfl rfl (by decide) 0 rfl rfl rfl hl.1 rfl (Nat.le_of_ble_eq_true rfl) dX11_uniform_69 (fun u_4 H locs hφ hP hD hS => ?_)
  have hP : va_P D vwCl [((q 2), .inr (8, [.ref (q 20), .ref (q 21), .ref (q 22)])), ((q 20), .inr (5, [.ref (q 23), .ref (q 24), .ref (q 25), .int 0, .int 0, .int 0, .int 0])), ((q 21), .inr (0, [.ref (q 26), .ref (q 27), .ref (q 28), .ref (q 29), .int 0, .int 0])), ((q 26), .inl (k 1, 401, .inl (fun _ => 0)))] H := hP
  have hD : va_D A [((q 2), .inr (8, [.ref (q 20), .ref (q 21), .ref (q 22)])), ((q 20), .inr (5, [.ref (q 23), .ref (q 24), .ref (q 25), .int 0, .int 0, .int 0, .int 0])), ((q 21), .inr (0, [.ref (q 26), .ref (q 27), .ref (q 28), .ref (q 29), .int 0, .int 0])), ((q 26), .inl (k 1, 401, .inl (fun _ => 0)))] := hD
  refine W.eq (g2 := F0 m 72 ls [.int 1]) rfl ?_
  exact EWi hx hb hr hlocks hS () rfl trivial nil_P nil_D dX11_uniform_72
set_option maxHeartbeats 4000000 in
set_option maxRecDepth 100000 in
theorem p_lived (l : Launch) (D : va_G) (k : Nat → ClassId) (q : Nat → Nat) (a : Int32) : WD (σ := Unit) l yX11_lived cX11_lived 2 (some .int) 8 0 0 D k [.ref (q 0), .int a] [((q 0), .inr (11, [.ref (q 1), .ref (q 2), .ref (q 3), .ref (q 4), .ref (q 5), .ref (q 6), .ref (q 7), .ref (q 8), .ref (q 9), .ref (q 10), .ref (q 11), .int 0, .int 0, .int 0, .long 0, .long 1])), ((q 11), .inl (k 1, 5, .inl (fun _ => 0)))] (fun _ => some (.int (-1))) (fun _ => True) (fun _ => []) := by
  refine MW (by decide) (Nat.le_of_ble_eq_true rfl) (fun p e s m below meth c ls A hx hb hml hr hlocks hin hts hown hKK hP hD hS hA hl => ?_)
  have hK := hKK.1
  have hl : lv_has ls 2 [(0, .ref (q 0)), (1, .int a)] := hl
  refine lv_iload_n hx hb dX11_lived_0 rfl (lv_at hl 1 rfl) ?_
  refine lv_aload_n hx hb dX11_lived_1 rfl (lv_at hl 0 rfl) ?_
  refine va_get (D := D) (ci := 11) (v := .ref (q 11)) (C := RX11) (T := TX11) (N := 16) hx hb hts iX11 hown hK hP 0 rfl rfl 10 (by decide) (hts _ qf_X11_83) (fun _ h => h) rfl dX11_lived_2 ?_
  refine va_alen (v := 5) hx hb hK hP 1 1 rfl (ty := .int) rfl (by decide +kernel) dX11_lived_5 ?_
  refine lv_iconst (v := 1) hx hb dX11_lived_6 (by decide) ?_
  refine lv_isub hx hb dX11_lived_7 ?_
  refine lv_topi (fun x_1 ex_1 => ?_)
  obtain rfl : x_1 = 4 := ex_1.trans (by decide +kernel)
  refine CRS (As := [.int a, .int 4]) (rest := []) hx hb hml hown hts hKK (hP.sub (ws' := []) [] rfl) (c_isWithin l D k a 4) ci_X11_isWithin qm_X11_103 ⟨Nat.le_of_ble_eq_true rfl, Nat.le_of_ble_eq_true rfl⟩ ⟨Nat.le_of_ble_eq_true rfl, Nat.le_of_ble_eq_true rfl⟩ rfl hl.1 rfl (Nat.le_of_ble_eq_true rfl) dX11_lived_8 ?_
  refine lv_if_ne (tgt := 20) hx hb dX11_lived_11 (by decide) (fun c_2 => ?_) (fun c_2 => ?_)
  ·
    refine lv_aload_n hx hb dX11_lived_20 rfl (lv_at hl 0 rfl) ?_
    refine va_get (D := D) (ci := 11) (v := .int 0) (C := RX11) (T := TX11) (N := 16) hx hb hts iX11 hown hK hP 0 rfl rfl 11 (by decide) (hts _ qf_X11_369) (fun _ h => h) rfl dX11_lived_21 ?_
    refine lv_if_eq (tgt := 40) hx hb dX11_lived_24 (by decide) (fun _ => ?_) (fun c => absurd (by decide) c)
    refine lv_aload_n hx hb dX11_lived_40 rfl (lv_at hl 0 rfl) ?_
    refine lv_bipush (v := 6) hx hb dX11_lived_41 (by decide) ?_
    refine CWV (As := [.int 6]) (rest := []) (wc := [((q 0), .inr (11, [.ref (q 1), .ref (q 2), .ref (q 3), .ref (q 4), .ref (q 5), .ref (q 6), .ref (q 7), .ref (q 8), .ref (q 9), .ref (q 10), .ref (q 11), .int 0, .int 0, .int 0, .long 0, .long 1]))]) (wr := [((q 11), .inl (k 1, 5, .inl (fun _ => 0)))]) hx hb hml hown hts hKK hP hD hS hA (c_refuse l D k (q 0) [.ref (q 1), .ref (q 2), .ref (q 3), .ref (q 4), .ref (q 5), .ref (q 6), .ref (q 7), .ref (q 8), .ref (q 9), .ref (q 10), .ref (q 11), .int 0, .int 0, .int 0, .long 0, .long 1] (Nat.le_of_ble_eq_true rfl) 6) ci_X11_refuse qm_X11_126 ⟨Nat.le_of_ble_eq_true rfl, Nat.le_of_ble_eq_true rfl⟩ ⟨Nat.le_of_ble_eq_true rfl, Nat.le_of_ble_eq_true rfl⟩ [0] [1] rfl rfl rfl rfl rfl (by decide) 0 rfl rfl rfl hl.1 rfl (Nat.le_of_ble_eq_true rfl) dX11_lived_43 (fun u_3 H locs hφ hP hD hS => ?_)
    have hP : va_P D vwCl [((q 11), .inl (k 1, 5, .inl (fun _ => 0)))] H := hP
    have hD : va_D A [((q 11), .inl (k 1, 5, .inl (fun _ => 0)))] := hD
    refine W.eq (g2 := F0 m 46 ls [.int (-1)]) rfl ?_
    exact EWi hx hb hr hlocks hS () rfl trivial nil_P nil_D dX11_lived_46
  ·
    refine lv_aload_n hx hb dX11_lived_14 rfl (lv_at hl 0 rfl) ?_
    refine lv_iconst (v := 1) hx hb dX11_lived_15 (by decide) ?_
    refine CWV (As := [.int 1]) (rest := []) (wc := [((q 0), .inr (11, [.ref (q 1), .ref (q 2), .ref (q 3), .ref (q 4), .ref (q 5), .ref (q 6), .ref (q 7), .ref (q 8), .ref (q 9), .ref (q 10), .ref (q 11), .int 0, .int 0, .int 0, .long 0, .long 1]))]) (wr := [((q 11), .inl (k 1, 5, .inl (fun _ => 0)))]) hx hb hml hown hts hKK hP hD hS hA (c_refuse l D k (q 0) [.ref (q 1), .ref (q 2), .ref (q 3), .ref (q 4), .ref (q 5), .ref (q 6), .ref (q 7), .ref (q 8), .ref (q 9), .ref (q 10), .ref (q 11), .int 0, .int 0, .int 0, .long 0, .long 1] (Nat.le_of_ble_eq_true rfl) 1) ci_X11_refuse qm_X11_126 ⟨Nat.le_of_ble_eq_true rfl, Nat.le_of_ble_eq_true rfl⟩ ⟨Nat.le_of_ble_eq_true rfl, Nat.le_of_ble_eq_true rfl⟩ [0] [1] rfl rfl rfl rfl rfl (by decide) 0 rfl rfl rfl hl.1 rfl (Nat.le_of_ble_eq_true rfl) dX11_lived_16 (fun u_4 H locs hφ hP hD hS => ?_)
    have hP : va_P D vwCl [((q 11), .inl (k 1, 5, .inl (fun _ => 0)))] H := hP
    have hD : va_D A [((q 11), .inl (k 1, 5, .inl (fun _ => 0)))] := hD
    refine W.eq (g2 := F0 m 19 ls [.int (-1)]) rfl ?_
    exact EWi hx hb hr hlocks hS () rfl trivial nil_P nil_D dX11_lived_19
