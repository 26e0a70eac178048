set_option maxHeartbeats 4000000 in
set_option maxRecDepth 100000 in
theorem k_answer (l : Launch) (D : va_G) (k : Nat → ClassId) (hx1 : Nat) (ta : Nat) (hw1 : Nat) (hw12 : Nat) (ka : Nat) (hr1 : Nat) (hq : Nat) (hv : Nat) (h : Nat) (hn1 : Nat) (hL : Nat) (li : Nat) (ev : Int) (mk : Int) (ou : Int) (up : Int64) (lo : Int64) (x : Int) : WD (σ := ((Int) × (Int64) × (Unit) × (Unit))) l yX11_answer cX11_answer 2 (some .int) 0 0 0 D k [.ref hx1, .int (iZ x)] [(hx1, .inr (11, [.ref ta, .ref hw1, .ref hw12, .ref ka, .ref hr1, .ref hq, .ref hv, .ref h, .ref hn1, .ref hL, .ref li, .int (iZ ev), .int (iZ mk), .int (iZ ou), .long up, .long lo]))] (fun _ => some (.int (iZ x))) (fun _ => True) (fun u => [(hx1, .inr (11, [.ref ta, .ref hw1, .ref hw12, .ref ka, .ref hr1, .ref hq, .ref hv, .ref h, .ref hn1, .ref hL, .ref li, .int (iZ ev), .int (iZ mk), .int (iZ 0), .long up, .long lo]))]) := by
  refine MW (by decide) (Nat.le_of_ble_eq_true rfl) (fun p e s m below meth c ls A hx hb hml hr hlocks hin hts hown hKK hP hD hS hA hl => ?_)
  have hK := hKK.1
  have hl : lv_has ls 2 [(0, .ref hx1), (1, .int (iZ x))] := hl
  refine lv_aload_n hx hb dX11_answer_0 rfl (lv_at hl 0 rfl) ?_
  refine lv_iconst (v := iZ 0) hx hb dX11_answer_1 rfl ?_
  refine va_put (D := D) (ci := 11) (v := .int (iZ 0)) (ty := .int) (C := RX11) (T := TX11) (N := 16) hx hb hts iX11 tyX11 tyX11_ok nmX11 hown hK hP hD hS 0 rfl rfl 13 (bl rfl) (hts _ qf_X11_87) (fun _ h => h) rfl (by decide +kernel) rfl rfl (Nat.le_of_ble_eq_true rfl) dX11_answer_2 (fun H locs hP hD hS => ?_)
  refine lv_iload_n hx hb dX11_answer_5 rfl (lv_at hl 1 rfl) ?_
  exact EWi hx hb hr hlocks hS (0, 0, (), ()) rfl trivial (hP.sub [0] rfl) (hD.sub [0] rfl rfl) dX11_answer_6
set_option maxHeartbeats 4000000 in
set_option maxRecDepth 100000 in
theorem k_refuse (l : Launch) (D : va_G) (k : Nat → ClassId) (hx1 : Nat) (ta : Nat) (hw1 : Nat) (hw12 : Nat) (ka : Nat) (hr1 : Nat) (hq : Nat) (hv : Nat) (h : Nat) (hn1 : Nat) (hL : Nat) (li : Nat) (ev : Int) (mk : Int) (ou : Int) (up : Int64) (lo : Int64) (x : Int) : WD (σ := ((Int) × (Int64) × (Unit) × (Unit))) l yX11_refuse cX11_refuse 2 (some .int) 0 0 0 D k [.ref hx1, .int (iZ x)] [(hx1, .inr (11, [.ref ta, .ref hw1, .ref hw12, .ref ka, .ref hr1, .ref hq, .ref hv, .ref h, .ref hn1, .ref hL, .ref li, .int (iZ ev), .int (iZ mk), .int (iZ ou), .long up, .long lo]))] (fun _ => some (.int (iZ (-1)))) (fun _ => True) (fun u => [(hx1, .inr (11, [.ref ta, .ref hw1, .ref hw12, .ref ka, .ref hr1, .ref hq, .ref hv, .ref h, .ref hn1, .ref hL, .ref li, .int (iZ ev), .int (iZ mk), .int (iZ x), .long up, .long lo]))]) := by
  refine MW (by decide) (Nat.le_of_ble_eq_true rfl) (fun p e s m below meth c ls A hx hb hml hr hlocks hin hts hown hKK hP hD hS hA hl => ?_)
  have hK := hKK.1
  have hl : lv_has ls 2 [(0, .ref hx1), (1, .int (iZ x))] := hl
  refine lv_aload_n hx hb dX11_refuse_0 rfl (lv_at hl 0 rfl) ?_
  refine lv_iload_n hx hb dX11_refuse_1 rfl (lv_at hl 1 rfl) ?_
  refine va_put (D := D) (ci := 11) (v := .int (iZ x)) (ty := .int) (C := RX11) (T := TX11) (N := 16) hx hb hts iX11 tyX11 tyX11_ok nmX11 hown hK hP hD hS 0 rfl rfl 13 (bl rfl) (hts _ qf_X11_87) (fun _ h => h) rfl (by decide +kernel) rfl rfl (Nat.le_of_ble_eq_true rfl) dX11_refuse_2 (fun H locs hP hD hS => ?_)
  refine lv_iconst (v := iZ (-1)) hx hb dX11_refuse_5 rfl ?_
  exact EWi hx hb hr hlocks hS (0, 0, (), ()) rfl trivial (hP.sub [0] rfl) (hD.sub [0] rfl rfl) dX11_refuse_6
set_option maxHeartbeats 4000000 in
set_option maxRecDepth 100000 in
theorem k_answerIfAny (l : Launch) (D : va_G) (k : Nat → ClassId) (hx1 : Nat) (ta : Nat) (hw1 : Nat) (hw12 : Nat) (ka : Nat) (hr1 : Nat) (hq : Nat) (hv : Nat) (h : Nat) (hn1 : Nat) (hL : Nat) (li : Nat) (ev : Int) (mk : Int) (ou : Int) (up : Int64) (lo : Int64) (x : Int) (h9x : -2147483648 ≤ x ∧ x < 2147483648) : WD (σ := ((Int × Int) × (Int64) × (Unit) × (Unit))) l yX11_answerIfAny cX11_answerIfAny 2 (some .int) 1 0 0 D k [.ref hx1, .int (iZ x)] [(hx1, .inr (11, [.ref ta, .ref hw1, .ref hw12, .ref ka, .ref hr1, .ref hq, .ref hv, .ref h, .ref hn1, .ref hL, .ref li, .int (iZ ev), .int (iZ mk), .int (iZ ou), .long up, .long lo]))] (fun _ => some (.int (iZ x))) (fun u => (x = -1 ∧ u.1.2 = 6) ∨ (¬ x = -1 ∧ u.1.2 = 0)) (fun u => [(hx1, .inr (11, [.ref ta, .ref hw1, .ref hw12, .ref ka, .ref hr1, .ref hq, .ref hv, .ref h, .ref hn1, .ref hL, .ref li, .int (iZ ev), .int (iZ mk), .int (iZ u.1.2), .long up, .long lo]))]) := by
  refine MW (by decide) (Nat.le_of_ble_eq_true rfl) (fun p e s m below meth c ls A hx hb hml hr hlocks hin hts hown hKK hP hD hS hA hl => ?_)
  have hK := hKK.1
  have hl : lv_has ls 2 [(0, .ref hx1), (1, .int (iZ x))] := hl
  refine lv_iload_n hx hb dX11_answerIfAny_0 rfl (lv_at hl 1 rfl) ?_
  refine lv_iconst (v := iZ (-1)) hx hb dX11_answerIfAny_1 rfl ?_
  refine lv_icmp_ne (tgt := 14) hx hb dX11_answerIfAny_2 rfl (fun c_1 => ?_) (fun c_1 => ?_)
  ·
    have c_1 := mt (zeq (x := iZ x) (y := iZ (-1)) rfl rfl ⟨by omega, by omega⟩ wn_m1).mpr c_1
    refine lv_aload_n hx hb dX11_answerIfAny_14 rfl (lv_at hl 0 rfl) ?_
    refine lv_iload_n hx hb dX11_answerIfAny_15 rfl (lv_at hl 1 rfl) ?_
    refine CWV (As := [.int (iZ x)]) (rest := []) (wc := _) (wr := []) hx hb hml hown hts hKK hP hD hS hA (k_answer l D k hx1 ta hw1 hw12 ka hr1 hq hv h hn1 hL li ev mk ou up lo x) ci_X11_answer qm_X11_174 ⟨Nat.le_of_ble_eq_true rfl, Nat.le_of_ble_eq_true rfl⟩ ⟨Nat.le_of_ble_eq_true rfl, Nat.le_of_ble_eq_true rfl⟩ [0] [] rfl rfl rfl rfl rfl (dj rfl) 0 rfl rfl rfl hl.1 rfl (Nat.le_of_ble_eq_true rfl) dX11_answerIfAny_16 (fun u_2 H locs hφ hP hD hS => ?_)
    refine W.eq (g2 := F0 m 19 ls [.int (iZ x)]) rfl ?_
    exact EWi hx hb hr hlocks hS ((0, 0), 0, (), ()) rfl (show (x = -1 ∧ 0 = 6) ∨ (¬ x = -1 ∧ 0 = 0) from (by omega)) (hP.sub [0] rfl) (hD.sub [0] rfl rfl) dX11_answerIfAny_19
  ·
    have c_1 := (zeq (x := iZ x) (y := iZ (-1)) rfl rfl ⟨by omega, by omega⟩ wn_m1).mp c_1
    refine lv_aload_n hx hb dX11_answerIfAny_5 rfl (lv_at hl 0 rfl) ?_
    refine lv_bipush (v := iZ 6) hx hb dX11_answerIfAny_6 bip_6 ?_
    refine CWV (As := [.int (iZ 6)]) (rest := []) (wc := _) (wr := []) hx hb hml hown hts hKK hP hD hS hA (k_refuse l D k hx1 ta hw1 hw12 ka hr1 hq hv h hn1 hL li ev mk ou up lo 6) ci_X11_refuse qm_X11_126 ⟨Nat.le_of_ble_eq_true rfl, Nat.le_of_ble_eq_true rfl⟩ ⟨Nat.le_of_ble_eq_true rfl, Nat.le_of_ble_eq_true rfl⟩ [0] [] rfl rfl rfl rfl rfl (dj rfl) 0 rfl rfl rfl hl.1 rfl (Nat.le_of_ble_eq_true rfl) dX11_answerIfAny_8 (fun u_3 H locs hφ hP hD hS => ?_)
    refine W.eq (g2 := F0 m 11 ls [.int (iZ (-1))]) rfl ?_
    refine lv_goto (tgt := 19) hx hb dX11_answerIfAny_11 rfl ?_
    exact EWi hx hb hr hlocks hS ((0, 6), 0, (), ()) (congrArg (fun z9 => some (Value.int (iZ z9))) (show x = -1 from (by omega))) (show (x = -1 ∧ 6 = 6) ∨ (¬ x = -1 ∧ 6 = 0) from (by omega)) (hP.sub [0] rfl) (hD.sub [0] rfl rfl) dX11_answerIfAny_19
set_option maxHeartbeats 4000000 in
set_option maxRecDepth 100000 in
theorem k_isWithin (l : Launch) (D : va_G) (k : Nat → ClassId) (x : Int) (y : Int) (h9x : -2147483648 ≤ x ∧ x < 2147483648) (h9y : -2147483648 ≤ y ∧ y < 2147483648) : RP l yX11_isWithin cX11_isWithin 2 (some .boolean) 0 D k [.int (iZ x), .int (iZ y)] [] (fun z => (z = 1 ∧ (0 ≤ x ∧ x ≤ y)) ∨ (z = 0 ∧ ¬ (0 ≤ x ∧ x ≤ y))) := by
  refine MRP (by decide) (Nat.le_of_ble_eq_true rfl) (fun p e s m below meth c ls hx hb hml hr hlocks hts hown hKK hP hl => ?_)
  have hK := hKK.1
  have hl : lv_has ls 2 [(0, .int (iZ x)), (1, .int (iZ y))] := hl
  refine lv_iload_n hx hb dX11_isWithin_0 rfl (lv_at hl 0 rfl) ?_
  refine lv_if_lt (tgt := 13) hx hb dX11_isWithin_1 rfl (fun c_1 => ?_) (fun c_1 => ?_)
  ·
    have c_1 := (zlt (x := iZ x) (y := iZ 0) rfl rfl ⟨by omega, by omega⟩ wn_0).mp c_1
    refine lv_iconst (v := iZ 0) hx hb dX11_isWithin_13 rfl ?_
    exact EPz hx hb hr hlocks (by omega) (by omega) dX11_isWithin_14
  ·
    have c_1 := mt (zlt (x := iZ x) (y := iZ 0) rfl rfl ⟨by omega, by omega⟩ wn_0).mpr c_1
    refine lv_iload_n hx hb dX11_isWithin_4 rfl (lv_at hl 0 rfl) ?_
    refine lv_iload_n hx hb dX11_isWithin_5 rfl (lv_at hl 1 rfl) ?_
    refine lv_icmp_gt (tgt := 13) hx hb dX11_isWithin_6 rfl (fun c_2 => ?_) (fun c_2 => ?_)
    ·
      have c_2 := (zlt (x := iZ y) (y := iZ x) rfl rfl ⟨by omega, by omega⟩ ⟨by omega, by omega⟩).mp c_2
      refine lv_iconst (v := iZ 0) hx hb dX11_isWithin_13 rfl ?_
      exact EPz hx hb hr hlocks (by omega) (by omega) dX11_isWithin_14
    ·
      have c_2 := mt (zlt (x := iZ y) (y := iZ x) rfl rfl ⟨by omega, by omega⟩ ⟨by omega, by omega⟩).mpr c_2
      refine lv_iconst (v := iZ 1) hx hb dX11_isWithin_9 rfl ?_
      refine lv_goto (tgt := 14) hx hb dX11_isWithin_10 rfl ?_
      exact EPz hx hb hr hlocks (by omega) (by omega) dX11_isWithin_14
set_option maxHeartbeats 4000000 in
set_option maxRecDepth 100000 in
theorem k_isWeek (l : Launch) (D : va_G) (k : Nat → ClassId) (x : Int) (h9x : -2147483648 ≤ x ∧ x < 2147483648) : RP l yX11_isWeek cX11_isWeek 1 (some .boolean) 1 D k [.int (iZ x)] [] (fun z => (z = 1 ∧ (0 ≤ x ∧ x ≤ 400)) ∨ (z = 0 ∧ ¬ (0 ≤ x ∧ x ≤ 400))) := by
  refine MRP (by decide) (Nat.le_of_ble_eq_true rfl) (fun p e s m below meth c ls hx hb hml hr hlocks hts hown hKK hP hl => ?_)
  have hK := hKK.1
  have hl : lv_has ls 1 [(0, .int (iZ x))] := hl
  refine lv_iload_n hx hb dX11_isWeek_0 rfl (lv_at hl 0 rfl) ?_
  refine lv_sipush (v := iZ 400) hx hb dX11_isWeek_1 sip_400 ?_
  refine CPS (As := [.int (iZ x), .int (iZ 400)]) (rest := []) hx hb hml hown hts hKK hP (k_isWithin l D k x 400 ⟨by omega, by omega⟩ ⟨by omega, by omega⟩) ci_X11_isWithin qm_X11_103 ⟨Nat.le_of_ble_eq_true rfl, Nat.le_of_ble_eq_true rfl⟩ ⟨Nat.le_of_ble_eq_true rfl, Nat.le_of_ble_eq_true rfl⟩ rfl hl.1 rfl (Nat.le_of_ble_eq_true rfl) dX11_isWeek_4 (fun z_1 hz_1 => ?_)
  rcases hz_1 with ⟨qz_1, hz_1⟩ | ⟨qz_1, hz_1⟩
  ·
    subst qz_1
    exact EPz hx hb hr hlocks (by omega) (by omega) dX11_isWeek_7
  ·
    subst qz_1
    exact EPz hx hb hr hlocks (by omega) (by omega) dX11_isWeek_7
set_option maxHeartbeats 4000000 in
set_option maxRecDepth 100000 in
theorem k_isRock (l : Launch) (D : va_G) (k : Nat → ClassId) (hx1 : Nat) (ta : Nat) (hw1 : Nat) (hw12 : Nat) (ka : Nat) (hr1 : Nat) (hq : Nat) (hv : Nat) (h : Nat) (hn1 : Nat) (hL : Nat) (li : Nat) (ev : Int) (mk : Int) (ou : Int) (up : Int64) (lo : Int64) (fs : List Value) (hs : Nat) (hc : Nat) (hy : Nat) (n : Int) (x : Int) (f3 : fs[3]? = some (.int (iZ n))) (hn6 : 0 ≤ n ∧ n ≤ 6) (h9x : -2147483648 ≤ x ∧ x < 2147483648) : RP l yX11_isRock cX11_isRock 2 (some .boolean) 1 D k [.ref hx1, .int (iZ x)] [(hx1, .inr (11, [.ref ta, .ref hw1, .ref hw12, .ref ka, .ref hr1, .ref hq, .ref hv, .ref h, .ref hn1, .ref hL, .ref li, .int (iZ ev), .int (iZ mk), .int (iZ ou), .long up, .long lo])), (hw1, .inr (8, [.ref hs, .ref hc, .ref hy])), (hs, .inr (5, fs))] (fun z => (z = 1 ∧ (0 ≤ x ∧ x < n)) ∨ (z = 0 ∧ ¬ (0 ≤ x ∧ x < n))) := by
  refine MRP (by decide) (Nat.le_of_ble_eq_true rfl) (fun p e s m below meth c ls hx hb hml hr hlocks hts hown hKK hP hl => ?_)
  have hK := hKK.1
  have hl : lv_has ls 2 [(0, .ref hx1), (1, .int (iZ x))] := hl
  refine lv_iload_n hx hb dX11_isRock_0 rfl (lv_at hl 1 rfl) ?_
  refine lv_aload_n hx hb dX11_isRock_1 rfl (lv_at hl 0 rfl) ?_
  refine va_get (D := D) (ci := 11) (v := .ref hw1) (C := RX11) (T := TX11) (N := 16) hx hb hts iX11 hown hK hP 0 rfl rfl 1 (bl rfl) (hts _ qf_X11_18) (fun _ h => h) rfl dX11_isRock_2 ?_
  refine va_get (D := D) (ci := 8) (v := .ref hs) (C := RX8) (T := TX8) (N := 3) hx hb hts iX8 hown hK hP 1 rfl rfl 0 (bl rfl) (hts _ qf_X11_54) (fun _ h => h) rfl dX11_isRock_5 ?_
  refine va_get (D := D) (ci := 5) (v := .int (iZ n)) (C := RX5) (T := TX5) (N := 7) hx hb hts iX5 hown hK hP 2 rfl rfl 3 (bl rfl) (hts _ qf_X11_169) (fun _ h => h) f3 dX11_isRock_8 ?_
  refine lv_iconst (v := iZ 1) hx hb dX11_isRock_11 rfl ?_
  refine lv_isub hx hb dX11_isRock_12 ?_
  refine lv_topi (fun x_1 ex_1 => ?_)
  obtain rfl : x_1 = iZ (n - 1) := ex_1.trans (iZ_sub n 1)
  refine CPS (As := [.int (iZ x), .int (iZ (n - 1))]) (rest := []) hx hb hml hown hts hKK (hP.sub (ws' := []) [] rfl) (k_isWithin l D k x (n - 1) ⟨by omega, by omega⟩ ⟨by omega, by omega⟩) ci_X11_isWithin qm_X11_103 ⟨Nat.le_of_ble_eq_true rfl, Nat.le_of_ble_eq_true rfl⟩ ⟨Nat.le_of_ble_eq_true rfl, Nat.le_of_ble_eq_true rfl⟩ rfl hl.1 rfl (Nat.le_of_ble_eq_true rfl) dX11_isRock_13 (fun z_2 hz_2 => ?_)
  rcases hz_2 with ⟨qz_2, hz_2⟩ | ⟨qz_2, hz_2⟩
  ·
    subst qz_2
    exact EPz hx hb hr hlocks (by omega) (by omega) dX11_isRock_16
  ·
    subst qz_2
    exact EPz hx hb hr hlocks (by omega) (by omega) dX11_isRock_16
set_option maxHeartbeats 4000000 in
set_option maxRecDepth 100000 in
theorem k_isCouple (l : Launch) (D : va_G) (k : Nat → ClassId) (hx1 : Nat) (ta : Nat) (hw1 : Nat) (hw12 : Nat) (ka : Nat) (hr1 : Nat) (hq : Nat) (hv : Nat) (h : Nat) (hn1 : Nat) (hL : Nat) (li : Nat) (ev : Int) (mk : Int) (ou : Int) (up : Int64) (lo : Int64) (fs : List Value) (hs : Nat) (hc : Nat) (hy : Nat) (n : Int) (x : Int) (y : Int) (f3 : fs[3]? = some (.int (iZ n))) (hn6 : 0 ≤ n ∧ n ≤ 6) (h9x : -2147483648 ≤ x ∧ x < 2147483648) (h9y : -2147483648 ≤ y ∧ y < 2147483648) : RP l yX11_isCouple cX11_isCouple 3 (some .boolean) 2 D k [.ref hx1, .int (iZ x), .int (iZ y)] [(hx1, .inr (11, [.ref ta, .ref hw1, .ref hw12, .ref ka, .ref hr1, .ref hq, .ref hv, .ref h, .ref hn1, .ref hL, .ref li, .int (iZ ev), .int (iZ mk), .int (iZ ou), .long up, .long lo])), (hw1, .inr (8, [.ref hs, .ref hc, .ref hy])), (hs, .inr (5, fs))] (fun z => (z = 1 ∧ ((0 ≤ x ∧ x < n) ∧ (0 ≤ y ∧ y < n) ∧ ¬ x = y)) ∨ (z = 0 ∧ ¬ ((0 ≤ x ∧ x < n) ∧ (0 ≤ y ∧ y < n) ∧ ¬ x = y))) := by
  refine MRP (by decide) (Nat.le_of_ble_eq_true rfl) (fun p e s m below meth c ls hx hb hml hr hlocks hts hown hKK hP hl => ?_)
  have hK := hKK.1
  have hl : lv_has ls 3 [(0, .ref hx1), (1, .int (iZ x)), (2, .int (iZ y))] := hl
  refine lv_aload_n hx hb dX11_isCouple_0 rfl (lv_at hl 0 rfl) ?_
  refine lv_iload_n hx hb dX11_isCouple_1 rfl (lv_at hl 1 rfl) ?_
  refine CPV (As := [.int (iZ x)]) (rest := []) hx hb hml hown hts hKK hP (k_isRock l D k hx1 ta hw1 hw12 ka hr1 hq hv h hn1 hL li ev mk ou up lo fs hs hc hy n x f3 ⟨by omega, by omega⟩ ⟨by omega, by omega⟩) ci_X11_isRock qm_X11_221 ⟨Nat.le_of_ble_eq_true rfl, Nat.le_of_ble_eq_true rfl⟩ ⟨Nat.le_of_ble_eq_true rfl, Nat.le_of_ble_eq_true rfl⟩ 0 rfl rfl rfl hl.1 rfl (Nat.le_of_ble_eq_true rfl) dX11_isCouple_2 (fun z_1 hz_1 => ?_)
  rcases hz_1 with ⟨qz_1, hz_1⟩ | ⟨qz_1, hz_1⟩
  ·
    subst qz_1
    refine lv_if_eq (tgt := 25) hx hb dX11_isCouple_5 rfl (fun c => absurd c (by decide)) (fun _ => ?_)
    refine lv_aload_n hx hb dX11_isCouple_8 rfl (lv_at hl 0 rfl) ?_
    refine lv_iload_n hx hb dX11_isCouple_9 rfl (lv_at hl 2 rfl) ?_
    refine CPV (As := [.int (iZ y)]) (rest := []) hx hb hml hown hts hKK hP (k_isRock l D k hx1 ta hw1 hw12 ka hr1 hq hv h hn1 hL li ev mk ou up lo fs hs hc hy n y f3 ⟨by omega, by omega⟩ ⟨by omega, by omega⟩) ci_X11_isRock qm_X11_221 ⟨Nat.le_of_ble_eq_true rfl, Nat.le_of_ble_eq_true rfl⟩ ⟨Nat.le_of_ble_eq_true rfl, Nat.le_of_ble_eq_true rfl⟩ 0 rfl rfl rfl hl.1 rfl (Nat.le_of_ble_eq_true rfl) dX11_isCouple_10 (fun z_3 hz_3 => ?_)
    rcases hz_3 with ⟨qz_3, hz_3⟩ | ⟨qz_3, hz_3⟩
    ·
      subst qz_3
      refine lv_if_eq (tgt := 25) hx hb dX11_isCouple_13 rfl (fun c => absurd c (by decide)) (fun _ => ?_)
      refine lv_iload_n hx hb dX11_isCouple_16 rfl (lv_at hl 1 rfl) ?_
      refine lv_iload_n hx hb dX11_isCouple_17 rfl (lv_at hl 2 rfl) ?_
      refine lv_icmp_eq (tgt := 25) hx hb dX11_isCouple_18 rfl (fun c_5 => ?_) (fun c_5 => ?_)
      ·
        have c_5 := (zeq (x := iZ x) (y := iZ y) rfl rfl ⟨by omega, by omega⟩ ⟨by omega, by omega⟩).mp c_5
        refine lv_iconst (v := iZ 0) hx hb dX11_isCouple_25 rfl ?_
        exact EPz hx hb hr hlocks (by omega) (by omega) dX11_isCouple_26
      ·
        have c_5 := mt (zeq (x := iZ x) (y := iZ y) rfl rfl ⟨by omega, by omega⟩ ⟨by omega, by omega⟩).mpr c_5
        refine lv_iconst (v := iZ 1) hx hb dX11_isCouple_21 rfl ?_
        refine lv_goto (tgt := 26) hx hb dX11_isCouple_22 rfl ?_
        exact EPz hx hb hr hlocks (by omega) (by omega) dX11_isCouple_26
    ·
      subst qz_3
      refine lv_if_eq (tgt := 25) hx hb dX11_isCouple_13 rfl (fun _ => ?_) (fun c => absurd (by decide) c)
      refine lv_iconst (v := iZ 0) hx hb dX11_isCouple_25 rfl ?_
      exact EPz hx hb hr hlocks (by omega) (by omega) dX11_isCouple_26
  ·
    subst qz_1
    refine lv_if_eq (tgt := 25) hx hb dX11_isCouple_5 rfl (fun _ => ?_) (fun c => absurd (by decide) c)
    refine lv_iconst (v := iZ 0) hx hb dX11_isCouple_25 rfl ?_
    exact EPz hx hb hr hlocks (by omega) (by omega) dX11_isCouple_26
set_option maxHeartbeats 4000000 in
set_option maxRecDepth 100000 in
theorem k_isNews (l : Launch) (D : va_G) (k : Nat → ClassId) (hx1 : Nat) (ta : Nat) (hw1 : Nat) (hw12 : Nat) (ka : Nat) (hr1 : Nat) (hq : Nat) (hv : Nat) (h : Nat) (hn1 : Nat) (hL : Nat) (li : Nat) (ev : Int) (mk : Int) (ou : Int) (up : Int64) (lo : Int64) (fs : List Value) (hs : Nat) (hc : Nat) (hy : Nat) (n : Int) (x : Int) (y : Int) (f3 : fs[3]? = some (.int (iZ n))) (hn6 : 0 ≤ n ∧ n ≤ 6) (h9x : -2147483648 ≤ x ∧ x < 2147483648) (h9y : -2147483648 ≤ y ∧ y < 2147483648) : RP l yX11_isNews cX11_isNews 3 (some .boolean) 2 D k [.ref hx1, .int (iZ x), .int (iZ y)] [(hx1, .inr (11, [.ref ta, .ref hw1, .ref hw12, .ref ka, .ref hr1, .ref hq, .ref hv, .ref h, .ref hn1, .ref hL, .ref li, .int (iZ ev), .int (iZ mk), .int (iZ ou), .long up, .long lo])), (hw1, .inr (8, [.ref hs, .ref hc, .ref hy])), (hs, .inr (5, fs))] (fun z => (z = 1 ∧ ((0 ≤ x ∧ x < n) ∧ (0 ≤ y ∧ y ≤ 400))) ∨ (z = 0 ∧ ¬ ((0 ≤ x ∧ x < n) ∧ (0 ≤ y ∧ y ≤ 400)))) := by
  refine MRP (by decide) (Nat.le_of_ble_eq_true rfl) (fun p e s m below meth c ls hx hb hml hr hlocks hts hown hKK hP hl => ?_)
  have hK := hKK.1
  have hl : lv_has ls 3 [(0, .ref hx1), (1, .int (iZ x)), (2, .int (iZ y))] := hl
  refine lv_aload_n hx hb dX11_isNews_0 rfl (lv_at hl 0 rfl) ?_
  refine lv_iload_n hx hb dX11_isNews_1 rfl (lv_at hl 1 rfl) ?_
  refine CPV (As := [.int (iZ x)]) (rest := []) hx hb hml hown hts hKK hP (k_isRock l D k hx1 ta hw1 hw12 ka hr1 hq hv h hn1 hL li ev mk ou up lo fs hs hc hy n x f3 ⟨by omega, by omega⟩ ⟨by omega, by omega⟩) ci_X11_isRock qm_X11_221 ⟨Nat.le_of_ble_eq_true rfl, Nat.le_of_ble_eq_true rfl⟩ ⟨Nat.le_of_ble_eq_true rfl, Nat.le_of_ble_eq_true rfl⟩ 0 rfl rfl rfl hl.1 rfl (Nat.le_of_ble_eq_true rfl) dX11_isNews_2 (fun z_1 hz_1 => ?_)
  rcases hz_1 with ⟨qz_1, hz_1⟩ | ⟨qz_1, hz_1⟩
  ·
    subst qz_1
    refine lv_if_eq (tgt := 19) hx hb dX11_isNews_5 rfl (fun c => absurd c (by decide)) (fun _ => ?_)
    refine lv_iload_n hx hb dX11_isNews_8 rfl (lv_at hl 2 rfl) ?_
    refine CPS (As := [.int (iZ y)]) (rest := []) hx hb hml hown hts hKK (hP.sub (ws' := []) [] rfl) (k_isWeek l D k y ⟨by omega, by omega⟩) ci_X11_isWeek qm_X11_240 ⟨Nat.le_of_ble_eq_true rfl, Nat.le_of_ble_eq_true rfl⟩ ⟨Nat.le_of_ble_eq_true rfl, Nat.le_of_ble_eq_true rfl⟩ rfl hl.1 rfl (Nat.le_of_ble_eq_true rfl) dX11_isNews_9 (fun z_3 hz_3 => ?_)
    rcases hz_3 with ⟨qz_3, hz_3⟩ | ⟨qz_3, hz_3⟩
    ·
      subst qz_3
      refine lv_if_eq (tgt := 19) hx hb dX11_isNews_12 rfl (fun c => absurd c (by decide)) (fun _ => ?_)
      refine lv_iconst (v := iZ 1) hx hb dX11_isNews_15 rfl ?_
      refine lv_goto (tgt := 20) hx hb dX11_isNews_16 rfl ?_
      exact EPz hx hb hr hlocks (by omega) (by omega) dX11_isNews_20
    ·
      subst qz_3
      refine lv_if_eq (tgt := 19) hx hb dX11_isNews_12 rfl (fun _ => ?_) (fun c => absurd (by decide) c)
      refine lv_iconst (v := iZ 0) hx hb dX11_isNews_19 rfl ?_
      exact EPz hx hb hr hlocks (by omega) (by omega) dX11_isNews_20
  ·
    subst qz_1
    refine lv_if_eq (tgt := 19) hx hb dX11_isNews_5 rfl (fun _ => ?_) (fun c => absurd (by decide) c)
    refine lv_iconst (v := iZ 0) hx hb dX11_isNews_19 rfl ?_
    exact EPz hx hb hr hlocks (by omega) (by omega) dX11_isNews_20