/-- the class's part of the world -/
def WLa (k : Nat → ClassId) (u : Nat → Nat) : va_W := [((u 0), .inr (11, [.ref (u 1), .ref (u 2), .ref (u 3), .ref (u 4), .ref (u 5), .ref (u 6), .ref (u 7), .ref (u 8), .ref (u 9), .ref (u 10), .ref (u 11), .int 0, .int 0, .int 0, .long 0, .long 1])), ((u 1), .inl (k 3, 4, .inr (.inr (.inr (.inr (fun i => some (u (120 + i)))))))), ((u 120), .inr (7, [.ref (u 124), .int 0, .int (-1)])), ((u 121), .inr (7, [.ref (u 125), .int 0, .int (-1)])), ((u 122), .inr (7, [.ref (u 126), .int 0, .int (-1)])), ((u 123), .inr (7, [.ref (u 127), .int 0, .int (-1)])), ((u 124), .inl (k 2, 60, .inr (.inl (fun _ => 0)))), ((u 125), .inl (k 2, 60, .inr (.inl (fun _ => 0)))), ((u 126), .inl (k 2, 60, .inr (.inl (fun _ => 0)))), ((u 127), .inl (k 2, 60, .inr (.inl (fun _ => 0)))), ((u 4), .inl (k 4, 3, .inr (.inr (.inr (.inr (fun i => some (u (12 + i)))))))), ((u 2), .inr (8, [.ref (u 20), .ref (u 21), .ref (u 22)])), ((u 20), .inr (5, [.ref (u 23), .ref (u 24), .ref (u 25), .int 0, .int 0, .int 0, .int 0])), ((u 23), .inl (k 2, 6, .inr (.inl (fun _ => 0)))), ((u 24), .inl (k 1, 36, .inl (fun _ => 0))), ((u 25), .inl (k 1, 32, .inl (fun _ => 0))), ((u 21), .inr (0, [.ref (u 26), .ref (u 27), .ref (u 28), .ref (u 29), .int 0, .int 0])), ((u 26), .inl (k 1, 401, .inl (fun _ => 0))), ((u 27), .inl (k 1, 20, .inl (fun _ => 0))), ((u 28), .inl (k 1, 20, .inl (fun _ => 0))), ((u 29), .inl (k 1, 120, .inl (fun _ => 0))), ((u 22), .inr (9, [.ref (u 30), .ref (u 31), .ref (u 32), .ref (u 33), .ref (u 34), .int 0, .int 0, .int 0])), ((u 30), .inl (k 1, 60, .inl (fun _ => 0))), ((u 31), .inl (k 1, 60, .inl (fun _ => 0))), ((u 32), .inl (k 1, 60, .inl (fun _ => 0))), ((u 33), .inl (k 1, 60, .inl (fun _ => 0))), ((u 34), .inl (k 1, 60, .inl (fun _ => 0))), ((u 3), .inr (8, [.ref (u 40), .ref (u 41), .ref (u 42)])), ((u 40), .inr (5, [.ref (u 43), .ref (u 44), .ref (u 45), .int 0, .int 0, .int 0, .int 0])), ((u 43), .inl (k 2, 6, .inr (.inl (fun _ => 0)))), ((u 44), .inl (k 1, 36, .inl (fun _ => 0))), ((u 45), .inl (k 1, 32, .inl (fun _ => 0))), ((u 41), .inr (0, [.ref (u 46), .ref (u 47), .ref (u 48), .ref (u 49), .int 0, .int 0])), ((u 46), .inl (k 1, 401, .inl (fun _ => 0))), ((u 47), .inl (k 1, 20, .inl (fun _ => 0))), ((u 48), .inl (k 1, 20, .inl (fun _ => 0))), ((u 49), .inl (k 1, 120, .inl (fun _ => 0))), ((u 42), .inr (9, [.ref (u 50), .ref (u 51), .ref (u 52), .ref (u 53), .ref (u 54), .int 0, .int 0, .int 0])), ((u 50), .inl (k 1, 60, .inl (fun _ => 0))), ((u 51), .inl (k 1, 60, .inl (fun _ => 0))), ((u 52), .inl (k 1, 60, .inl (fun _ => 0))), ((u 53), .inl (k 1, 60, .inl (fun _ => 0))), ((u 54), .inl (k 1, 60, .inl (fun _ => 0))), ((u 12), .inr (8, [.ref (u 60), .ref (u 61), .ref (u 62)])), ((u 60), .inr (5, [.ref (u 63), .ref (u 64), .ref (u 65), .int 0, .int 0, .int 0, .int 0])), ((u 63), .inl (k 2, 6, .inr (.inl (fun _ => 0)))), ((u 64), .inl (k 1, 36, .inl (fun _ => 0))), ((u 65), .inl (k 1, 32, .inl (fun _ => 0))), ((u 61), .inr (0, [.ref (u 66), .ref (u 67), .ref (u 68), .ref (u 69), .int 0, .int 0])), ((u 66), .inl (k 1, 401, .inl (fun _ => 0))), ((u 67), .inl (k 1, 20, .inl (fun _ => 0))), ((u 68), .inl (k 1, 20, .inl (fun _ => 0))), ((u 69), .inl (k 1, 120, .inl (fun _ => 0))), ((u 62), .inr (9, [.ref (u 70), .ref (u 71), .ref (u 72), .ref (u 73), .ref (u 74), .int 0, .int 0, .int 0])), ((u 70), .inl (k 1, 60, .inl (fun _ => 0))), ((u 71), .inl (k 1, 60, .inl (fun _ => 0))), ((u 72), .inl (k 1, 60, .inl (fun _ => 0))), ((u 73), .inl (k 1, 60, .inl (fun _ => 0))), ((u 74), .inl (k 1, 60, .inl (fun _ => 0))), ((u 5), .inr (4, [.ref (u 130), .ref (u 131), .int 0, .int 0, .int 0, .int 0, .int 0, .int 0, .int 0, .long 0, .int (-1), .int (-1)])), ((u 130), .inl (k 0, 900, .inl (fun _ => 0))), ((u 6), .inr (6, [.ref (u 5), .null, .int 0])), ((u 7), .inr (10, [.ref (u 5), .ref (u 132), .int 0, .null, .null])), ((u 8), .inr (3, [.ref (u 20), .long 0, .null, .null])), ((u 10), .inr (1, [.ref (u 2), .ref (u 8), .ref (u 9), .ref (u 137), .int 0, .int 0, .int 0, .int 0, .int 0, .int 0, .int 0])), ((u 11), .inl (k 1, 5, .inl (fun _ => 0)))]
theorem ql_L_7 : Cond.classLink RL 7 RX11 ∈ gw := tbt (tb1 (List.mem_of_getElem? (i := 22) rfl)) rfl
theorem ql_L_10 : Cond.classLink RL 10 RX12 ∈ gw := tbt (tb6 (List.mem_of_getElem? (i := 34) rfl)) rfl
theorem qy_X11 : Cond.instantiable RX11 16 ∈ gw := tbt (tb1 (List.mem_of_getElem? (i := 23) rfl)) rfl
theorem qy_X12 : Cond.instantiable RX12 36 ∈ gw := tbt (tb6 (List.mem_of_getElem? (i := 35) rfl)) rfl
theorem qm_L_9 : Cond.methodLink RL 9 yX11_init ∈ gw := tbt (tb1 (List.mem_of_getElem? (i := 24) rfl)) rfl
theorem qm_L_12 : Cond.methodLink RL 12 yX12_init ∈ gw := tbt (tb6 (List.mem_of_getElem? (i := 36) rfl)) rfl
theorem qc_X11_init : Cond.code yX11_init cX11_init 2 none ∈ gw := tbt (tb1 (List.mem_of_getElem? (i := 26) rfl)) rfl
theorem qi_yX11_init : Cond.instanceMethod yX11_init ∈ gw := tbt (tb1 (List.mem_of_getElem? (i := 25) rfl)) rfl
theorem ci_X11_init : CIi yX11_init cX11_init 2 0 := ⟨qc_X11_init, qi_yX11_init, qz_X11, rfl, by decide +kernel⟩
theorem qc_X12_init : Cond.code yX12_init cX12_init 1 none ∈ gw := tbt (tb6 (List.mem_of_getElem? (i := 38) rfl)) rfl
theorem qi_yX12_init : Cond.instanceMethod yX12_init ∈ gw := tbt (tb6 (List.mem_of_getElem? (i := 37) rfl)) rfl
theorem ci_X12_init : CIi yX12_init cX12_init 1 0 := ⟨qc_X12_init, qi_yX12_init, qz_X12, rfl, by decide +kernel⟩
def kwB : List Int32 := [114, 111, 99, 107, 32, 102, 97, 114, 32, 114, 111, 117, 110, 100, 32, 97, 116, 32, 114, 97, 110, 107, 32, 112, 114, 105, 99, 101, 32, 115, 119, 105, 110, 103, 32, 119, 101, 97, 114, 115, 32, 105, 99, 101, 32, 102, 114, 111, 109, 32, 116, 111, 32, 108, 97, 119, 32, 102, 105, 114, 115, 116, 32, 108, 97, 115, 116, 32, 115, 101, 110, 116, 32, 119, 101, 101, 107, 32, 119, 101, 97, 114, 32, 111, 114, 100, 101, 114, 32, 99, 104, 97, 110, 99, 101, 32, 119, 104, 101, 110, 32, 114, 117, 108, 101, 115, 32, 105, 110, 32, 108, 111, 111, 112, 32, 101, 110, 100, 32, 115, 116, 111, 112, 32]
def kwTm : Term := .string "SlowWorlds$Reader" 26
theorem kw_el : ∀ j : Nat, j < 124 → (Cond.eq (.elem (.field kwTm "java/lang/String" "value" "[B") (.int (Int32.ofNat j))) (.int (kwB.getD j 0))) ∈ flatC (Jvm.Cond.and given_1 narrow_1) := by decide +kernel
theorem ac_prim {s : State} {args : Array Value} {ty : FieldType} (hty : ∀ (U : State) (cA : ClassId), va_RA U cA ty = (U.vm.findClass ("[" ++ ty.toString) = some cA)) (h : (Cond.arrayClass ty).before args s = true) : ∃ cA : ClassId, ArrOfT s cA ty ∧ va_RA s cA ty := by
  obtain ⟨cA, kA, comp, h1, h2, h3⟩ := Cond.arrayClass_spec (args := args) (first := s) (o := none) (s := s) (idx := []) h
  exact ⟨cA, fun n z => ⟨fun k h => (by cases h), kA, h2, comp, h3⟩, by rw [hty]; exact h1⟩
theorem ac_obj {s : State} {args : Array Value} {C : String} (h : (Cond.arrayOver (.object C)).before args s = true) : ∃ cA : ClassId, ArrOfT s cA (.object C) ∧ va_RA s cA (.object C) := by
  obtain ⟨comp, cA, kA, h1, h2, h3, h4, h5⟩ := Cond.arrayOver_spec (args := args) (first := s) (o := none) (s := s) (idx := []) h
  exact ⟨cA, fun N z => ⟨(fun k h => by cases h), kA, h3, comp, h4⟩, kA, comp, h3, h4, h1, h5⟩
set_option maxHeartbeats 4000000 in
set_option maxRecDepth 100000 in
theorem kk_start {s : State} {args : Array Value} (hts0 : ∀ w ∈ lw_tbl, w.before args s = true) (hts : ∀ w ∈ gw, w.before args s = true) : ∃ (D : va_G) (k : Nat → ClassId), KK D k s := by
  obtain ⟨c0, iS0, hKn0⟩ := u_known (C := RX0) (T := TX0) (N := 6) (n := 6) hts iX0 (hts _ qy_X0)
  obtain ⟨c1, iS1, hKn1⟩ := u_known (C := RX1) (T := TX1) (N := 11) (n := 11) hts iX1 (hts _ qy_X1)
  obtain ⟨c2, iS2, hKn2⟩ := u_known (C := RX2) (T := TX2) (N := 6) (n := 6) hts iX2 (hts _ qy_X2)
  obtain ⟨c3, iS3, hKn3⟩ := u_known (C := RX3) (T := TX3) (N := 4) (n := 4) hts iX3 (hts _ qy_X3)
  obtain ⟨c4, iS4, hKn4⟩ := u_known (C := RX4) (T := TX4) (N := 12) (n := 12) hts iX4 (hts _ qy_X4)
  obtain ⟨c5, iS5, hKn5⟩ := u_known (C := RX5) (T := TX5) (N := 7) (n := 7) hts iX5 (hts _ qy_X5)
  obtain ⟨c6, iS6, hKn6⟩ := u_known (C := RX6) (T := TX6) (N := 3) (n := 3) hts iX6 (hts _ qy_X6)
  obtain ⟨c7, iS7, hKn7⟩ := u_known (C := RX7) (T := TX7) (N := 3) (n := 3) hts iX7 (hts _ qy_X7)
  obtain ⟨c8, iS8, hKn8⟩ := u_known (C := RX8) (T := TX8) (N := 3) (n := 3) hts iX8 (hts _ qy_X8)
  obtain ⟨c9, iS9, hKn9⟩ := u_known (C := RX9) (T := TX9) (N := 8) (n := 8) hts iX9 (hts _ qy_X9)
  obtain ⟨c10, iS10, hKn10⟩ := u_known (C := RX10) (T := TX10) (N := 5) (n := 5) hts iX10 (hts _ qy_X10)
  obtain ⟨c11, iS11, hKn11⟩ := u_known (C := RX11) (T := TX11) (N := 16) (n := 16) hts iX11 (hts _ qy_X11)
  obtain ⟨c12, iS12, hKn12⟩ := u_known (C := RX12) (T := TX12) (N := 36) (n := 36) hts iX12 (hts _ qy_X12)
  obtain ⟨k0, a0, b0⟩ := ac_prim (ty := .byte) (fun _ _ => rfl) (hts _ qa_byte)
  obtain ⟨k1, a1, b1⟩ := ac_prim (ty := .int) (fun _ _ => rfl) (hts _ qa_int)
  obtain ⟨k2, a2, b2⟩ := ac_prim (ty := .long) (fun _ _ => rfl) (hts _ qa_long)
  have oT : (Cond.arrayOver (.object "SlowWorlds$Tray")).before args s = true := hts0 _ (List.mem_append_right _ (tb1 (List.mem_of_getElem? (i := 31) rfl)))
  have oW : (Cond.arrayOver (.object "SlowWorlds$World")).before args s = true := hts0 _ (List.mem_append_right _ (tb1 (List.mem_of_getElem? (i := 184) rfl)))
  obtain ⟨k3, a3, b3⟩ := ac_obj oT
  obtain ⟨k4, a4, b4⟩ := ac_obj oW
  refine ⟨(fun i => [c0, c1, c2, c3, c4, c5, c6, c7, c8, c9, c10, c11, c12].getD i 0, fun i => [iS0, iS1, iS2, iS3, iS4, iS5, iS6, iS7, iS8, iS9, iS10, iS11, iS12].getD i (fun _ => 0)), fun i => [k0, k1, k2, k3, k4].getD i 0, ⟨?_, ?_⟩, ⟨va_Nw.of rfl (hts0 _ (List.mem_append_right _ (tb1 (List.mem_of_getElem? (i := 34) rfl)))), va_Nw.of rfl (hts0 _ (List.mem_append_right _ (tb2 (List.mem_of_getElem? (i := 179) rfl)))), va_Nw.of rfl (hts0 _ (List.mem_append_right _ (tb1 (List.mem_of_getElem? (i := 40) rfl)))), va_Nw.of rfl (hts0 _ (List.mem_append_right _ (tb1 (List.mem_of_getElem? (i := 86) rfl)))), va_Nw.of rfl (hts0 _ (List.mem_append_right _ (tb1 (List.mem_of_getElem? (i := 125) rfl))))⟩, va_AO.of oT, va_AO.of oW⟩
  · intro i r hr
    match i, hr with
    | 0, hr => cases hr; exact hKn0
    | 1, hr => cases hr; exact hKn1
    | 2, hr => cases hr; exact hKn2
    | 3, hr => cases hr; exact hKn3
    | 4, hr => cases hr; exact hKn4
    | 5, hr => cases hr; exact hKn5
    | 6, hr => cases hr; exact hKn6
    | 7, hr => cases hr; exact hKn7
    | 8, hr => cases hr; exact hKn8
    | 9, hr => cases hr; exact hKn9
    | 10, hr => cases hr; exact hKn10
    | 11, hr => cases hr; exact hKn11
    | 12, hr => cases hr; exact hKn12
    | (i + 13), hr => simp [vwCl] at hr
  · intro i r hr
    match i, hr with
    | 0, hr => cases hr; exact ⟨a0, b0⟩
    | 1, hr => cases hr; exact ⟨a1, b1⟩
    | 2, hr => cases hr; exact ⟨a2, b2⟩
    | 3, hr => cases hr; exact ⟨a3, b3⟩
    | 4, hr => cases hr; exact ⟨a4, b4⟩
    | (i + 5), hr => simp [TY] at hr
set_option maxHeartbeats 4000000 in
set_option maxRecDepth 100000 in
theorem sx_start {s : State} {b : Nat} {A : Nat → Prop} (hts0 : ∀ w ∈ lw_tbl, w.before #[Value.ref b] s = true) (hts : ∀ w ∈ gw, w.before #[Value.ref b] s = true) (hgv : (Jvm.Cond.and given_1 narrow_1).before #[Value.ref b] s = true) (hA : ∀ a : Nat, a < s.heap.size → ¬ A a) : ∃ (sa sv : Nat) (sf : Nat → Int32), SX sa sv sf A s s.heap ∧ vk_R RX4 26 kwT sa s := by
  have hs := flat_of_before _ hgv
  obtain ⟨adK, adV, h1, h2⟩ := vk_Sof (args := #[Value.ref b]) (s := s) (N := 1) (tm := fun _ => kwTm) (len := [124]) (byt := [kwB]) (A := A) (fun i hi => by rcases (show i = 0 by omega) with rfl; decide)
    (fun i _ => hs _ (by decide +kernel)) (fun i _ => hs _ (by decide +kernel)) (fun i _ => hs _ (by decide +kernel)) (fun i hi => by rcases (show i = 0 by omega) with rfl; exact hs _ (by decide +kernel))
    (fun i hi j hj => by rcases (show i = 0 by omega) with rfl; exact hs _ (kw_el j hj)) (fun i j hi hj hn => absurd (show i = j by omega) hn) hA
  obtain ⟨g1, g2, g3, g4⟩ := h1.1 0 (by decide)
  refine ⟨adK 0, adV 0, fun j => kwB.getD j 0, ⟨g1, g2, g3, g4, ?_, ?_⟩, vk_R.of (hts0 _ (List.mem_append_right _ (tb1 (List.mem_of_getElem? (i := 191) rfl)))) (h2 0 (by decide))⟩
  · exact va_Zof (hts0 _ (List.mem_append_right _ (tb1 (List.mem_of_getElem? (i := 201) rfl)))) (hts _ qz_J0) (va_eqi (hs _ (by decide +kernel))) hA
  · exact va_Zqof (hts0 _ (List.mem_append_right _ (tb1 (List.mem_of_getElem? (i := 217) rfl)))) (hts0 _ (List.mem_append_right _ (tb1 (List.mem_of_getElem? (i := 9) rfl)))) (hs _ (by decide +kernel)) hA
set_option maxHeartbeats 4000000 in
set_option maxRecDepth 100000 in
theorem law_sw {p : Program} {e : Env} {s : State} {m : MethodId} {below : List Frame} {meth : Method} {c : Code} (l : Launch) {b : Nat} {xs : Nat → Int32} {A : Nat → Prop} {D : va_G} {k : Nat → ClassId} {q : Nat → Nat} {H : Heap} {locs : List Loc} {ls : Array Slot} (C : LC p s m meth c b xs A D k q H locs ls) (j : Nat) (hj : j < 128) : W p l e room_1 s m #[Value.ref b] below meth c H locs 123 16705 (lw_Z below #[Value.ref b] s) (F0 m 33 ls [.int (nI j)]) := by
  obtain ⟨hx, hb, hr, hml, hown, hts, hKK, hX, hbl, hbA, hA, hAf, hlocks, hP, hD, hS, hl⟩ := id C
  match j, hj with
  | 0, _ => exact lv_tableIn (tgt := 344) (off := 311) hx hb dL_law_33 (by decide) (by decide) (by decide +kernel) (by decide) (law_c0 l C)
  | 1, _ => exact lv_tableIn (tgt := 357) (off := 324) hx hb dL_law_33 (by decide) (by decide) (by decide +kernel) (by decide) (law_c1 l C)
  | 2, _ => exact lv_tableIn (tgt := 371) (off := 338) hx hb dL_law_33 (by decide) (by decide) (by decide +kernel) (by decide) (law_c2 l C)
  | 3, _ => exact lv_tableIn (tgt := 385) (off := 352) hx hb dL_law_33 (by decide) (by decide) (by decide +kernel) (by decide) (law_c3 l C)
  | 4, _ => exact lv_tableIn (tgt := 428) (off := 395) hx hb dL_law_33 (by decide) (by decide) (by decide +kernel) (by decide) (law_c4 l C)
  | 5, _ => exact lv_tableIn (tgt := 501) (off := 468) hx hb dL_law_33 (by decide) (by decide) (by decide +kernel) (by decide) (law_c5 l C)
  | 6, _ => exact lv_tableIn (tgt := 535) (off := 502) hx hb dL_law_33 (by decide) (by decide) (by decide +kernel) (by decide) (law_c6 l C)
  | 7, _ => exact lv_tableIn (tgt := 598) (off := 565) hx hb dL_law_33 (by decide) (by decide) (by decide +kernel) (by decide) (law_c7 l C)
  | 8, _ => exact lv_tableIn (tgt := 661) (off := 628) hx hb dL_law_33 (by decide) (by decide) (by decide +kernel) (by decide) (law_c8 l C)
  | 9, _ => exact lv_tableIn (tgt := 684) (off := 651) hx hb dL_law_33 (by decide) (by decide) (by decide +kernel) (by decide) (law_c9 l C)
  | 10, _ => exact lv_tableIn (tgt := 707) (off := 674) hx hb dL_law_33 (by decide) (by decide) (by decide +kernel) (by decide) (law_c10 l C)
  | 11, _ => exact lv_tableIn (tgt := 730) (off := 697) hx hb dL_law_33 (by decide) (by decide) (by decide +kernel) (by decide) (law_c11 l C)
  | 12, _ => exact lv_tableIn (tgt := 753) (off := 720) hx hb dL_law_33 (by decide) (by decide) (by decide +kernel) (by decide) (law_c12 l C)
  | 13, _ => exact lv_tableIn (tgt := 786) (off := 753) hx hb dL_law_33 (by decide) (by decide) (by decide +kernel) (by decide) (law_c13 l C)
  | 14, _ => exact lv_tableIn (tgt := 819) (off := 786) hx hb dL_law_33 (by decide) (by decide) (by decide +kernel) (by decide) (law_c14 l C)
  | 15, _ => exact lv_tableIn (tgt := 852) (off := 819) hx hb dL_law_33 (by decide) (by decide) (by decide +kernel) (by decide) (law_c15 l C)
  | 16, _ => exact lv_tableIn (tgt := 905) (off := 872) hx hb dL_law_33 (by decide) (by decide) (by decide +kernel) (by decide) (law_c16 l C)
  | 17, _ => exact lv_tableIn (tgt := 948) (off := 915) hx hb dL_law_33 (by decide) (by decide) (by decide +kernel) (by decide) (law_c17 l C)
  | 18, _ => exact lv_tableIn (tgt := 991) (off := 958) hx hb dL_law_33 (by decide) (by decide) (by decide +kernel) (by decide) (law_c18 l C)
  | 19, _ => exact lv_tableIn (tgt := 1034) (off := 1001) hx hb dL_law_33 (by decide) (by decide) (by decide +kernel) (by decide) (law_c19 l C)
  | 20, _ => exact lv_tableIn (tgt := 1077) (off := 1044) hx hb dL_law_33 (by decide) (by decide) (by decide +kernel) (by decide) (law_c20 l C)
  | 21, _ => exact lv_tableIn (tgt := 1110) (off := 1077) hx hb dL_law_33 (by decide) (by decide) (by decide +kernel) (by decide) (law_c21 l C)
  | 22, _ => exact lv_tableIn (tgt := 1163) (off := 1130) hx hb dL_law_33 (by decide) (by decide) (by decide +kernel) (by decide) (law_c22 l C)
  | 23, _ => exact lv_tableIn (tgt := 1186) (off := 1153) hx hb dL_law_33 (by decide) (by decide) (by decide +kernel) (by decide) (law_c23 l C)
  | 24, _ => exact lv_tableIn (tgt := 1229) (off := 1196) hx hb dL_law_33 (by decide) (by decide) (by decide +kernel) (by decide) (law_c24 l C)
  | 25, _ => exact lv_tableIn (tgt := 1252) (off := 1219) hx hb dL_law_33 (by decide) (by decide) (by decide +kernel) (by decide) (law_c25 l C)
  | 26, _ => exact lv_tableIn (tgt := 1305) (off := 1272) hx hb dL_law_33 (by decide) (by decide) (by decide +kernel) (by decide) (law_c26 l C)
  | 27, _ => exact lv_tableIn (tgt := 1348) (off := 1315) hx hb dL_law_33 (by decide) (by decide) (by decide +kernel) (by decide) (law_c27 l C)
  | 28, _ => exact lv_tableIn (tgt := 1391) (off := 1358) hx hb dL_law_33 (by decide) (by decide) (by decide +kernel) (by decide) (law_c28 l C)
  | 29, _ => exact lv_tableIn (tgt := 1434) (off := 1401) hx hb dL_law_33 (by decide) (by decide) (by decide +kernel) (by decide) (law_c29 l C)
  | 30, _ => exact lv_tableIn (tgt := 1477) (off := 1444) hx hb dL_law_33 (by decide) (by decide) (by decide +kernel) (by decide) (law_c30 l C)
  | 31, _ => exact lv_tableIn (tgt := 1510) (off := 1477) hx hb dL_law_33 (by decide) (by decide) (by decide +kernel) (by decide) (law_c31 l C)
  | 32, _ => exact lv_tableIn (tgt := 1553) (off := 1520) hx hb dL_law_33 (by decide) (by decide) (by decide +kernel) (by decide) (law_c32 l C)
  | 33, _ => exact lv_tableIn (tgt := 1586) (off := 1553) hx hb dL_law_33 (by decide) (by decide) (by decide +kernel) (by decide) (law_c33 l C)
  | 34, _ => exact lv_tableIn (tgt := 1609) (off := 1576) hx hb dL_law_33 (by decide) (by decide) (by decide +kernel) (by decide) (law_c34 l C)
  | 35, _ => exact lv_tableIn (tgt := 1642) (off := 1609) hx hb dL_law_33 (by decide) (by decide) (by decide +kernel) (by decide) (law_c35 l C)
  | 36, _ => exact lv_tableIn (tgt := 1675) (off := 1642) hx hb dL_law_33 (by decide) (by decide) (by decide +kernel) (by decide) (law_c36 l C)
  | 37, _ => exact lv_tableIn (tgt := 1698) (off := 1665) hx hb dL_law_33 (by decide) (by decide) (by decide +kernel) (by decide) (law_c37 l C)
  | 38, _ => exact lv_tableIn (tgt := 1721) (off := 1688) hx hb dL_law_33 (by decide) (by decide) (by decide +kernel) (by decide) (law_c38 l C)
  | 39, _ => exact lv_tableIn (tgt := 1754) (off := 1721) hx hb dL_law_33 (by decide) (by decide) (by decide +kernel) (by decide) (law_c39 l C)
  | 40, _ => exact lv_tableIn (tgt := 1787) (off := 1754) hx hb dL_law_33 (by decide) (by decide) (by decide +kernel) (by decide) (law_c40 l C)
  | 41, _ => exact lv_tableIn (tgt := 1820) (off := 1787) hx hb dL_law_33 (by decide) (by decide) (by decide +kernel) (by decide) (law_c41 l C)
  | 42, _ => exact lv_tableIn (tgt := 1853) (off := 1820) hx hb dL_law_33 (by decide) (by decide) (by decide +kernel) (by decide) (law_c42 l C)
  | 43, _ => exact lv_tableIn (tgt := 1896) (off := 1863) hx hb dL_law_33 (by decide) (by decide) (by decide +kernel) (by decide) (law_c43 l C)
  | 44, _ => exact lv_tableIn (tgt := 1929) (off := 1896) hx hb dL_law_33 (by decide) (by decide) (by decide +kernel) (by decide) (law_c44 l C)
  | 45, _ => exact lv_tableIn (tgt := 1942) (off := 1909) hx hb dL_law_33 (by decide) (by decide) (by decide +kernel) (by decide) (law_c45 l C)
  | 46, _ => exact lv_tableIn (tgt := 1965) (off := 1932) hx hb dL_law_33 (by decide) (by decide) (by decide +kernel) (by decide) (law_c46 l C)
  | 47, _ => exact lv_tableIn (tgt := 1998) (off := 1965) hx hb dL_law_33 (by decide) (by decide) (by decide +kernel) (by decide) (law_c47 l C)
  | 48, _ => exact lv_tableIn (tgt := 2031) (off := 1998) hx hb dL_law_33 (by decide) (by decide) (by decide +kernel) (by decide) (law_c48 l C)
  | 49, _ => exact lv_tableIn (tgt := 2044) (off := 2011) hx hb dL_law_33 (by decide) (by decide) (by decide +kernel) (by decide) (law_c49 l C)
  | 50, _ => exact lv_tableIn (tgt := 2087) (off := 2054) hx hb dL_law_33 (by decide) (by decide) (by decide +kernel) (by decide) (law_c50 l C)
  | 51, _ => exact lv_tableIn (tgt := 2130) (off := 2097) hx hb dL_law_33 (by decide) (by decide) (by decide +kernel) (by decide) (law_c51 l C)
  | 52, _ => exact lv_tableIn (tgt := 2163) (off := 2130) hx hb dL_law_33 (by decide) (by decide) (by decide +kernel) (by decide) (law_c52 l C)
  | 53, _ => exact lv_tableIn (tgt := 2196) (off := 2163) hx hb dL_law_33 (by decide) (by decide) (by decide +kernel) (by decide) (law_c53 l C)
  | 54, _ => exact lv_tableIn (tgt := 2239) (off := 2206) hx hb dL_law_33 (by decide) (by decide) (by decide +kernel) (by decide) (law_c54 l C)
  | 55, _ => exact lv_tableIn (tgt := 2292) (off := 2259) hx hb dL_law_33 (by decide) (by decide) (by decide +kernel) (by decide) (law_c55 l C)
  | 56, _ => exact lv_tableIn (tgt := 2325) (off := 2292) hx hb dL_law_33 (by decide) (by decide) (by decide +kernel) (by decide) (law_c56 l C)
  | 57, _ => exact lv_tableIn (tgt := 2368) (off := 2335) hx hb dL_law_33 (by decide) (by decide) (by decide +kernel) (by decide) (law_c57 l C)
  | 58, _ => exact lv_tableIn (tgt := 2411) (off := 2378) hx hb dL_law_33 (by decide) (by decide) (by decide +kernel) (by decide) (law_c58 l C)
  | 59, _ => exact lv_tableIn (tgt := 2454) (off := 2421) hx hb dL_law_33 (by decide) (by decide) (by decide +kernel) (by decide) (law_c59 l C)
  | 60, _ => exact lv_tableIn (tgt := 2487) (off := 2454) hx hb dL_law_33 (by decide) (by decide) (by decide +kernel) (by decide) (law_c60 l C)
  | 61, _ => exact lv_tableIn (tgt := 2530) (off := 2497) hx hb dL_law_33 (by decide) (by decide) (by decide +kernel) (by decide) (law_c61 l C)
  | 62, _ => exact lv_tableIn (tgt := 2553) (off := 2520) hx hb dL_law_33 (by decide) (by decide) (by decide +kernel) (by decide) (law_c62 l C)
  | 63, _ => exact lv_tableIn (tgt := 2586) (off := 2553) hx hb dL_law_33 (by decide) (by decide) (by decide +kernel) (by decide) (law_c63 l C)
  | 64, _ => exact lv_tableIn (tgt := 2619) (off := 2586) hx hb dL_law_33 (by decide) (by decide) (by decide +kernel) (by decide) (law_c64 l C)
  | 65, _ => exact lv_tableIn (tgt := 2652) (off := 2619) hx hb dL_law_33 (by decide) (by decide) (by decide +kernel) (by decide) (law_c65 l C)
  | 66, _ => exact lv_tableIn (tgt := 2685) (off := 2652) hx hb dL_law_33 (by decide) (by decide) (by decide +kernel) (by decide) (law_c66 l C)
  | 67, _ => exact lv_tableIn (tgt := 2708) (off := 2675) hx hb dL_law_33 (by decide) (by decide) (by decide +kernel) (by decide) (law_c67 l C)
  | 68, _ => exact lv_tableIn (tgt := 2731) (off := 2698) hx hb dL_law_33 (by decide) (by decide) (by decide +kernel) (by decide) (law_c68 l C)
  | 69, _ => exact lv_tableIn (tgt := 2744) (off := 2711) hx hb dL_law_33 (by decide) (by decide) (by decide +kernel) (by decide) (law_c69 l C)
  | 70, _ => exact lv_tableIn (tgt := 2767) (off := 2734) hx hb dL_law_33 (by decide) (by decide) (by decide +kernel) (by decide) (law_c70 l C)
  | 71, _ => exact lv_tableIn (tgt := 2790) (off := 2757) hx hb dL_law_33 (by decide) (by decide) (by decide +kernel) (by decide) (law_c71 l C)
  | 72, _ => exact lv_tableIn (tgt := 2823) (off := 2790) hx hb dL_law_33 (by decide) (by decide) (by decide +kernel) (by decide) (law_c72 l C)
  | 73, _ => exact lv_tableIn (tgt := 2836) (off := 2803) hx hb dL_law_33 (by decide) (by decide) (by decide +kernel) (by decide) (law_c73 l C)
  | (j + 74), hj =>
    refine lv_tableOut (tgt := 2849) hx hb dL_law_33 (Or.inr ?_) (by decide) ?_
    · rw [nI_toInt (by omega)]; omega
    · exact law_done hx hb hr hlocks hX hbl hbA hAf hS (by decide) (by decide) hl
set_option maxHeartbeats 4000000 in
set_option maxRecDepth 100000 in
/-- THE LAW, from its entry -/
theorem whole_start {p : Program} {e : Env} {s : State} {m : MethodId} {below : List Frame} {meth : Method} {c : Code} (l : Launch) (hflags : l.flags = flags0) {b L : Nat} {xs : Nat → Int32} (hL : L ≤ 6) (C0 : lw_At p s m meth c b L xs) : W p l e room_1 s m #[Value.ref b] below meth c s.heap [] 0 0 (lw_Z below #[Value.ref b] s) (entryFrame m ([Value.ref b] : List Value).toArray 4) := by
  obtain ⟨hx, hb, hr, hml, hown, hts0, hX, hbl, hlocks, hgv⟩ := id C0
  have hts : ∀ w ∈ gw, w.before #[Value.ref b] s = true := fun w hw => hts0 w (List.mem_filter.mp hw).1
  obtain ⟨A, hAe⟩ : ∃ A : Nat → Prop, A = fun q => s.heap.size ≤ q := ⟨_, rfl⟩
  have hA : ∀ q : Nat, s.heap.size ≤ q → A q := fun q h => by rw [hAe]; exact h
  have hAf : ∀ q : Nat, A q → s.heap.size ≤ q := fun q h => by rw [hAe] at h; exact h
  have hbA : ¬ A b := fun h => absurd (hAf b h) (Nat.not_le.mpr hbl)
  obtain ⟨D, k, hKK⟩ := kk_start hts0 hts
  obtain ⟨sa, sv, sf, hSX, hRR⟩ := sx_start (A := A) hts0 hts hgv (fun a h q => absurd (hAf a q) (Nat.not_le.mpr h))
  have hK := hKK.1
  have hS : va_S A s.heap s.heap [] := va_S.rf
  have hP : va_P D vwCl [] s.heap := nil_P
  have hD : va_D A [] := nil_D
  have hl := lv_entry ([.ref b]) (n := 4) (Nat.le_of_ble_eq_true rfl)
  rw [lg_entry_eq]
  generalize (lg_sl ([.ref b]) ++ List.replicate (4 - (lg_sl ([.ref b])).length) Slot.unset).toArray = ls at hl ⊢
  have hl : lv_has ls 4 [(0, .ref b)] := hl
  refine va_new (ci := 11) (fs := [.null, .null, .null, .null, .null, .null, .null, .null, .null, .null, .null, .int 0, .int 0, .int 0, .long 0, .long 0]) (C := RX11) (T := TX11) (N := 16) hx hb hts iX11 tyX11 tyX11_ok hown (hts _ ql_L_7) (hts _ qy_X11) (hts _ qz_X11) hK hP hD hS hA rfl (fun j hj => by rcases (show j = 0 ∨ j = 1 ∨ j = 2 ∨ j = 3 ∨ j = 4 ∨ j = 5 ∨ j = 6 ∨ j = 7 ∨ j = 8 ∨ j = 9 ∨ j = 10 ∨ j = 11 ∨ j = 12 ∨ j = 13 ∨ j = 14 ∨ j = 15 by omega) with rfl | rfl | rfl | rfl | rfl | rfl | rfl | rfl | rfl | rfl | rfl | rfl | rfl | rfl | rfl | rfl <;> rfl) (Nat.le_of_ble_eq_true rfl) (Nat.le_of_ble_eq_true rfl) dL_law_0 (fun h H hP hD hS => ?_)
  have hP : va_P D vwCl [(h, .inr (11, [.null, .null, .null, .null, .null, .null, .null, .null, .null, .null, .null, .int 0, .int 0, .int 0, .long 0, .long 0]))] H := hP
  have hD : va_D A [(h, .inr (11, [.null, .null, .null, .null, .null, .null, .null, .null, .null, .null, .null, .int 0, .int 0, .int 0, .long 0, .long 0]))] := hD
  refine W.widen (k := 1) (n := 16) (by decide) (by decide) ?_
  refine lv_dup hx hb dL_law_3 rfl ?_
  refine CWIS (As := []) (rest := [.ref h]) (wc := [(h, .inr (11, [.null, .null, .null, .null, .null, .null, .null, .null, .null, .null, .null, .int 0, .int 0, .int 0, .long 0, .long 0]))]) (wr := []) hx hb hml hown hts hKK hP hD hS hA hSX hRR (n_SlowWorlds l D k sa sv sf h) ci_X11_init qm_L_9 ⟨Nat.le_of_ble_eq_true rfl, Nat.le_of_ble_eq_true rfl⟩ ⟨Nat.le_of_ble_eq_true rfl, Nat.le_of_ble_eq_true rfl⟩ [0] [] rfl rfl rfl rfl rfl (by decide) rfl hl.1 rfl (Nat.le_of_ble_eq_true rfl) dL_law_4 (fun u H locs hφ hP hD hS => ?_)
  have hφ : u 0 = h := hφ
  refine W.eq (g2 := F0 m 7 ls [.ref h]) rfl ?_
  refine W.widen (k := 106) (n := 6248) (by decide) (by decide) ?_
  refine lv_astore_n (lv' := [(1, .ref h), (0, .ref b)]) hx hb dL_law_7 rfl hl (by decide) rfl (fun ls hl => ?_)
  refine va_new (ci := 12) (fs := [.null, .null, .int 0, .long 0, .long 0, .null, .null, .null, .null, .null, .int 0, .int 0, .int 0, .int 0, .int 0, .int 0, .int 0, .int 0, .int 0, .int 0, .int 0, .null, .int 0, .int 0, .null, .null, .null, .null, .null, .int 0, .int 0, .null, .null, .null, .int 0, .int 0]) (C := RX12) (T := TX12) (N := 36) hx hb hts iX12 tyX12 tyX12_ok hown (hts _ ql_L_10) (hts _ qy_X12) (hts _ qz_X12) hK hP hD hS hA rfl (fun j hj => by rcases (show j = 0 ∨ j = 1 ∨ j = 2 ∨ j = 3 ∨ j = 4 ∨ j = 5 ∨ j = 6 ∨ j = 7 ∨ j = 8 ∨ j = 9 ∨ j = 10 ∨ j = 11 ∨ j = 12 ∨ j = 13 ∨ j = 14 ∨ j = 15 ∨ j = 16 ∨ j = 17 ∨ j = 18 ∨ j = 19 ∨ j = 20 ∨ j = 21 ∨ j = 22 ∨ j = 23 ∨ j = 24 ∨ j = 25 ∨ j = 26 ∨ j = 27 ∨ j = 28 ∨ j = 29 ∨ j = 30 ∨ j = 31 ∨ j = 32 ∨ j = 33 ∨ j = 34 ∨ j = 35 by omega) with rfl | rfl | rfl | rfl | rfl | rfl | rfl | rfl | rfl | rfl | rfl | rfl | rfl | rfl | rfl | rfl | rfl | rfl | rfl | rfl | rfl | rfl | rfl | rfl | rfl | rfl | rfl | rfl | rfl | rfl | rfl | rfl | rfl | rfl | rfl | rfl <;> rfl) (Nat.le_of_ble_eq_true rfl) (Nat.le_of_ble_eq_true rfl) dL_law_8 (fun h2 H hP hD hS => ?_)
  refine W.widen (k := 107) (n := 6284) (by decide) (by decide) ?_
  refine lv_dup hx hb dL_law_11 rfl ?_
  refine CWI (As := []) (rest := [.ref h2]) (wc := [(h2, .inr (12, [.null, .null, .int 0, .long 0, .long 0, .null, .null, .null, .null, .null, .int 0, .int 0, .int 0, .int 0, .int 0, .int 0, .int 0, .int 0, .int 0, .int 0, .int 0, .null, .int 0, .int 0, .null, .null, .null, .null, .null, .int 0, .int 0, .null, .null, .null, .int 0, .int 0]))]) (wr := WLa k u) hx hb hml hown hts hKK hP hD hS hA (n_Model l D k h2) ci_X12_init qm_L_12 ⟨Nat.le_of_ble_eq_true rfl, Nat.le_of_ble_eq_true rfl⟩ ⟨Nat.le_of_ble_eq_true rfl, Nat.le_of_ble_eq_true rfl⟩ [66] [0, 1, 2, 3, 4, 5, 6, 7, 8, 9, 10, 11, 12, 13, 14, 15, 16, 17, 18, 19, 20, 21, 22, 23, 24, 25, 26, 27, 28, 29, 30, 31, 32, 33, 34, 35, 36, 37, 38, 39, 40, 41, 42, 43, 44, 45, 46, 47, 48, 49, 50, 51, 52, 53, 54, 55, 56, 57, 58, 59, 60, 61, 62, 63, 64, 65] rfl rfl rfl rfl rfl (by decide) rfl hl.1 rfl (Nat.le_of_ble_eq_true rfl) dL_law_12 (fun v H locs hφ2 hP hD hS => ?_)
  have hφ2 : v 200 = h2 := hφ2
  refine W.eq (g2 := F0 m 15 ls [.ref h2]) rfl ?_
  refine W.widen (k := 123) (n := 16705) (by decide) (by decide) ?_
  refine lv_astore_n (lv' := [(2, .ref h2), (1, .ref h), (0, .ref b)]) hx hb dL_law_15 rfl hl (by decide) rfl (fun ls hl => ?_)
  refine lv_iconst (v := 0) hx hb dL_law_16 (by decide) ?_
  refine lv_istore_n (lv' := [(3, .int 0), (2, .ref h2), (1, .ref h), (0, .ref b)]) hx hb dL_law_17 rfl hl (by decide) rfl (fun ls hl => ?_)
  rcases Nat.lt_or_ge L 6 with h6 | h6
  · refine law_out hx hb hr hlocks hX hbl hbA hAf hS (by decide) (by decide) (lv_at hl 0 rfl) (lv_at hl 3 rfl) ?_
    rcases (show L = 0 ∨ L = 1 ∨ L = 2 ∨ L = 3 ∨ L = 4 ∨ L = 5 by omega) with rfl | rfl | rfl | rfl | rfl | rfl <;> decide
  · obtain rfl : L = 6 := by omega
    obtain ⟨q, hq⟩ : ∃ q : Nat → Nat, q = fun i => if i < 200 then u i else v i := ⟨_, rfl⟩
    have e0 : q 0 = h := by rw [hq]; exact hφ
    have e2 : q 200 = h2 := by rw [hq]; exact hφ2
    obtain ⟨hP, hD⟩ := refn (i := 1) (g := fun i => some ((fun i => if i < 200 then u i else v i) (120 + i))) hP hD rfl (by intro j hj; rcases (show j = 0 ∨ j = 1 ∨ j = 2 ∨ j = 3 by omega) with rfl | rfl | rfl | rfl <;> rfl)
    obtain ⟨hP, hD⟩ := refn (i := 10) (g := fun i => some ((fun i => if i < 200 then u i else v i) (12 + i))) hP hD rfl (by intro j hj; rcases (show j = 0 ∨ j = 1 ∨ j = 2 by omega) with rfl | rfl | rfl <;> rfl)
    have hP : va_P D vwCl (WL k q) H := by rw [hq]; exact hP
    have hD : va_D A (WL k q) := by rw [hq]; exact hD
    have hl : lv_has ls 4 [(3, .int 0), (2, .ref (q 200)), (1, .ref (q 0)), (0, .ref b)] := by rw [e0, e2]; exact hl
    have C : LC p s m meth c b xs A D k q H locs ls := ⟨hx, hb, hr, hml, hown, hts, hKK, hX, hbl, hbA, hA, hAf, hlocks, hP, hD, hS, hl⟩
    refine lv_iload_n hx hb dL_law_18 rfl (lv_at hl 0 rfl) ?_
    refine lv_aload_n hx hb dL_law_19 rfl (lv_at hl 3 rfl) ?_
    refine va_slen hx hb hX hbl hbA hS dL_law_20 ?_
    refine lv_bipush (v := 6) hx hb dL_law_21 (by decide) ?_
    refine lv_isub hx hb dL_law_23 ?_
    refine lv_icmp_gt (tgt := 2855) hx hb dL_law_24 (by decide) (fun c => absurd c (by decide +kernel)) (fun _ => ?_)
    refine lv_aload_n hx hb dL_law_27 rfl (lv_at hl 3 rfl) ?_
    refine lv_iload_n hx hb dL_law_28 rfl (lv_at hl 0 rfl) ?_
    refine va_sld hx hb hX hbl hbA hS (xin 0 6 rfl (by decide) (by decide)) dL_law_29 ?_
    refine lv_bipush (v := 127) hx hb dL_law_30 (by decide) ?_
    refine lv_iand hx hb dL_law_32 ?_
    refine lv_topi (fun x ex => ?_)
    obtain ⟨j, hj, hx2⟩ := pk_andE (xs (0 : Int32).toNatClampNeg) (m := 127) 7 (by decide)
    obtain rfl : x = nI j := ex.trans hx2
    exact law_sw l C j hj
