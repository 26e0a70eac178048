def R_law : String := "SlowWorldsLaw"
def lw_P (b : Addr) (xs : List Int32) (args : Array Value) (s : State) : Prop := args = #[.ref b] ∧ s.IntsAt b xs ∧ xs.length ≤ 6 ∧ (Jvm.Cond.and given_1 narrow_1).before args s = true
def lw_Q (_ : Array Value) (s : State) (o : Outcome) (t : State) : Prop := o = .returned (some (.int 1)) ∧ Framed s o t [] 600000 7302250
def lw_Z (below : List Frame) (a : Array Value) (s : State) : State → Prop := fun t => ∃ o, t.status = .running ∧ Ended t below o ∧ lw_Q a s o t
/-- the law's own end, with 1 on the stack, nothing written that was there before, its room as the claim has it -/
theorem lw_ret {p : Program} {l : Launch} {e : Env} {s : State} {m : MethodId} {below : List Frame} {meth : Method} {c : Code} {b : Nat} (hx : p.tables.exec = Jvm.exec) (hb : c.code = code) (hr : meth.sig.returnType = ret) (hlocks : meth.locks = false) {pc : Nat} {H : Heap} {ls : Array Slot} (hdg : decode code pc = .ok (.ireturn, 1)) : W p l e room_1 s m #[Value.ref b] below meth c H [] 600000 7302250 (lw_Z below #[Value.ref b] s) (F0 m pc ls [.int 1]) := by
  intro T hT X
  obtain ⟨fs, hret, hrun, hended, hW, hframe⟩ := X.leave (v := some (.int 1)) (hlocks := hlocks) (fun h => by rw [hr] at h; cases h)
  have hmeth' : T.vm.method? m = some meth := X.method'
  refine ⟨T.setFrames fs, ?_, .returned (some (.int 1)), hrun, hended, rfl, ⟨_, rfl⟩, hW, hframe⟩
  jvm_step X.here [X.here.top, hx, hb, hdg, hmeth', hr, ret, narrow_b1]
  (try refine ⟨rfl, ?_⟩); (try refine ⟨rfl, ?_⟩)
  first | (intro acts; rw [hret _ acts rfl rfl rfl]) | rw [hret _ _ rfl rfl rfl]
  exact Steps.refl _
/-- what holds at the law's entry: the machine, the code, the tables' words (any of lw_tbl by 'hts w (by decide +kernel)'), the script of L ints xs at the cell b, what the Statement gives of the start (any of its parts by flat_of_before) -/
def lw_At (p : Program) (s : State) (m : MethodId) (meth : Method) (c : Code) (b L : Nat) (xs : Nat → Int32) : Prop :=
  p.tables.exec = Jvm.exec ∧ c.code = code ∧ meth.sig.returnType = ret ∧ c.maxLocals = 4 ∧ s.vm.findClass R_law = some m.cls ∧ (∀ w ∈ lw_tbl, w.before #[Value.ref b] s = true) ∧ va_X b L xs s s.heap ∧ b < s.heap.size ∧ meth.locks = false ∧ (Jvm.Cond.and given_1 narrow_1).before #[Value.ref b] s = true
def WL (k : Nat → ClassId) (q : Nat → Nat) : va_W := [((q 0), .inr (11, [.ref (q 1), .ref (q 2), .ref (q 3), .ref (q 4), .ref (q 5), .ref (q 6), .ref (q 7), .ref (q 8), .ref (q 9), .ref (q 10), .ref (q 11), .int 0, .int 0, .int 0, .long 0, .long 1])), ((q 1), .inl (k 3, 4, .inr (.inr (.inr (.inr (fun i => some (q (120 + i)))))))), ((q 120), .inr (7, [.ref (q 124), .int 0, .int (-1)])), ((q 121), .inr (7, [.ref (q 125), .int 0, .int (-1)])), ((q 122), .inr (7, [.ref (q 126), .int 0, .int (-1)])), ((q 123), .inr (7, [.ref (q 127), .int 0, .int (-1)])), ((q 124), .inl (k 2, 60, .inr (.inl (fun _ => 0)))), ((q 125), .inl (k 2, 60, .inr (.inl (fun _ => 0)))), ((q 126), .inl (k 2, 60, .inr (.inl (fun _ => 0)))), ((q 127), .inl (k 2, 60, .inr (.inl (fun _ => 0)))), ((q 4), .inl (k 4, 3, .inr (.inr (.inr (.inr (fun i => some (q (12 + i)))))))), ((q 2), .inr (8, [.ref (q 20), .ref (q 21), .ref (q 22)])), ((q 20), .inr (5, [.ref (q 23), .ref (q 24), .ref (q 25), .int 0, .int 0, .int 0, .int 0])), ((q 23), .inl (k 2, 6, .inr (.inl (fun _ => 0)))), ((q 24), .inl (k 1, 36, .inl (fun _ => 0))), ((q 25), .inl (k 1, 32, .inl (fun _ => 0))), ((q 21), .inr (0, [.ref (q 26), .ref (q 27), .ref (q 28), .ref (q 29), .int 0, .int 0])), ((q 26), .inl (k 1, 401, .inl (fun _ => 0))), ((q 27), .inl (k 1, 20, .inl (fun _ => 0))), ((q 28), .inl (k 1, 20, .inl (fun _ => 0))), ((q 29), .inl (k 1, 120, .inl (fun _ => 0))), ((q 22), .inr (9, [.ref (q 30), .ref (q 31), .ref (q 32), .ref (q 33), .ref (q 34), .int 0, .int 0, .int 0])), ((q 30), .inl (k 1, 60, .inl (fun _ => 0))), ((q 31), .inl (k 1, 60, .inl (fun _ => 0))), ((q 32), .inl (k 1, 60, .inl (fun _ => 0))), ((q 33), .inl (k 1, 60, .inl (fun _ => 0))), ((q 34), .inl (k 1, 60, .inl (fun _ => 0))), ((q 3), .inr (8, [.ref (q 40), .ref (q 41), .ref (q 42)])), ((q 40), .inr (5, [.ref (q 43), .ref (q 44), .ref (q 45), .int 0, .int 0, .int 0, .int 0])), ((q 43), .inl (k 2, 6, .inr (.inl (fun _ => 0)))), ((q 44), .inl (k 1, 36, .inl (fun _ => 0))), ((q 45), .inl (k 1, 32, .inl (fun _ => 0))), ((q 41), .inr (0, [.ref (q 46), .ref (q 47), .ref (q 48), .ref (q 49), .int 0, .int 0])), ((q 46), .inl (k 1, 401, .inl (fun _ => 0))), ((q 47), .inl (k 1, 20, .inl (fun _ => 0))), ((q 48), .inl (k 1, 20, .inl (fun _ => 0))), ((q 49), .inl (k 1, 120, .inl (fun _ => 0))), ((q 42), .inr (9, [.ref (q 50), .ref (q 51), .ref (q 52), .ref (q 53), .ref (q 54), .int 0, .int 0, .int 0])), ((q 50), .inl (k 1, 60, .inl (fun _ => 0))), ((q 51), .inl (k 1, 60, .inl (fun _ => 0))), ((q 52), .inl (k 1, 60, .inl (fun _ => 0))), ((q 53), .inl (k 1, 60, .inl (fun _ => 0))), ((q 54), .inl (k 1, 60, .inl (fun _ => 0))), ((q 12), .inr (8, [.ref (q 60), .ref (q 61), .ref (q 62)])), ((q 60), .inr (5, [.ref (q 63), .ref (q 64), .ref (q 65), .int 0, .int 0, .int 0, .int 0])), ((q 63), .inl (k 2, 6, .inr (.inl (fun _ => 0)))), ((q 64), .inl (k 1, 36, .inl (fun _ => 0))), ((q 65), .inl (k 1, 32, .inl (fun _ => 0))), ((q 61), .inr (0, [.ref (q 66), .ref (q 67), .ref (q 68), .ref (q 69), .int 0, .int 0])), ((q 66), .inl (k 1, 401, .inl (fun _ => 0))), ((q 67), .inl (k 1, 20, .inl (fun _ => 0))), ((q 68), .inl (k 1, 20, .inl (fun _ => 0))), ((q 69), .inl (k 1, 120, .inl (fun _ => 0))), ((q 62), .inr (9, [.ref (q 70), .ref (q 71), .ref (q 72), .ref (q 73), .ref (q 74), .int 0, .int 0, .int 0])), ((q 70), .inl (k 1, 60, .inl (fun _ => 0))), ((q 71), .inl (k 1, 60, .inl (fun _ => 0))), ((q 72), .inl (k 1, 60, .inl (fun _ => 0))), ((q 73), .inl (k 1, 60, .inl (fun _ => 0))), ((q 74), .inl (k 1, 60, .inl (fun _ => 0))), ((q 5), .inr (4, [.ref (q 130), .ref (q 131), .int 0, .int 0, .int 0, .int 0, .int 0, .int 0, .int 0, .long 0, .int (-1), .int (-1)])), ((q 130), .inl (k 0, 900, .inl (fun _ => 0))), ((q 6), .inr (6, [.ref (q 5), .null, .int 0])), ((q 7), .inr (10, [.ref (q 5), .ref (q 132), .int 0, .null, .null])), ((q 8), .inr (3, [.ref (q 20), .long 0, .null, .null])), ((q 10), .inr (1, [.ref (q 2), .ref (q 8), .ref (q 9), .ref (q 137), .int 0, .int 0, .int 0, .int 0, .int 0, .int 0, .int 0])), ((q 11), .inl (k 1, 5, .inl (fun _ => 0))), ((q 200), .inr (12, [.ref (q 201), .ref (q 202), .int 0, .long 0, .long 1, .ref (q 203), .ref (q 204), .ref (q 205), .ref (q 206), .ref (q 207), .int 0, .int 0, .int 0, .int 0, .int 0, .int 0, .int (-1), .int (-1), .int 0, .int 0, .int 0, .ref (q 208), .int 0, .int 0, .ref (q 209), .ref (q 210), .ref (q 211), .ref (q 212), .ref (q 213), .int 0, .int 0, .ref (q 214), .ref (q 215), .ref (q 216), .int 0, .int 0])), ((q 201), .inl (k 1, 5340, .inl at0)), ((q 202), .inl (k 2, 36, .inr (.inl (fun _ => 0)))), ((q 203), .inl (k 1, 4, .inl (fun _ => 0))), ((q 204), .inl (k 1, 4, .inl (fun _ => -1))), ((q 205), .inl (k 2, 240, .inr (.inl (fun _ => 0)))), ((q 206), .inl (k 0, 900, .inl (fun _ => 0)))]
def LC (p : Program) (s : State) (m : MethodId) (meth : Method) (c : Code) (b : Nat) (xs : Nat → Int32) (A : Nat → Prop) (D : va_G) (k : Nat → ClassId) (q : Nat → Nat) (H : Heap) (locs : List Loc) (ls : Array Slot) : Prop :=
  p.tables.exec = Jvm.exec ∧ c.code = code ∧ meth.sig.returnType = ret ∧ c.maxLocals = 4 ∧ s.vm.findClass R_law = some m.cls ∧ (∀ w ∈ gw, w.before #[Value.ref b] s = true) ∧ KK D k s ∧ va_X b 6 xs s s.heap ∧ b < s.heap.size ∧ ¬ A b ∧ (∀ q : Nat, s.heap.size ≤ q → A q) ∧ (∀ q : Nat, A q → s.heap.size ≤ q) ∧ meth.locks = false ∧ va_P D vwCl (WL k q) H ∧ va_D A (WL k q) ∧ va_S A s.heap H locs ∧ lv_has ls 4 [(3, .int 0), (2, .ref (q 200)), (1, .ref (q 0)), (0, .ref b)]
section LW
variable {p : Program} {l : Launch} {e : Env} {s : State} {m : MethodId} {below : List Frame} {meth : Method} {c : Code} {b L cells slots : Nat} {xs : Nat → Int32} {A : Nat → Prop} {H : Heap} {locs : List Loc} {ls : Array Slot}
theorem law_out {iv : Int32} (hx : p.tables.exec = Jvm.exec) (hb : c.code = code) (hr : meth.sig.returnType = ret) (hlocks : meth.locks = false) (hX : va_X b L xs s s.heap) (hbl : b < s.heap.size) (hbA : ¬ A b) (hAf : ∀ q : Nat, A q → s.heap.size ≤ q) (hS : va_S A s.heap H locs) (hc1 : cells ≤ 600000) (hc2 : slots ≤ 7302250) (hl3 : ls[3]? = some (.val (.int iv))) (hl0 : ls[0]? = some (.val (.ref b))) (hc : Int32.ofNat L - 6 < iv) : W p l e room_1 s m #[Value.ref b] below meth c H locs cells slots (lw_Z below #[Value.ref b] s) (F0 m 18 ls []) := by
  refine lv_iload_n hx hb dL_law_18 rfl hl3 ?_
  refine lv_aload_n hx hb dL_law_19 rfl hl0 ?_
  refine va_slen hx hb hX hbl hbA hS dL_law_20 ?_
  refine lv_bipush (v := 6) hx hb dL_law_21 (by decide) ?_
  refine lv_isub hx hb dL_law_23 ?_
  refine lv_icmp_gt (tgt := 2855) hx hb dL_law_24 (by decide) (fun _ => ?_) (fun c => absurd hc c)
  refine lv_iconst (v := 1) hx hb dL_law_2855 (by decide) ?_
  refine va_forget (fun q h => hAf _ (hS.2.2 q h)) ?_
  refine W.widen (k := 600000) (n := 7302250) hc1 hc2 ?_
  exact lw_ret hx hb hr hlocks dL_law_2856
theorem law_done {r1 r2 : Nat} (hx : p.tables.exec = Jvm.exec) (hb : c.code = code) (hr : meth.sig.returnType = ret) (hlocks : meth.locks = false) (hX : va_X b 6 xs s s.heap) (hbl : b < s.heap.size) (hbA : ¬ A b) (hAf : ∀ q : Nat, A q → s.heap.size ≤ q) (hS : va_S A s.heap H locs) (hc1 : cells ≤ 600000) (hc2 : slots ≤ 7302250) (hl : lv_has ls 4 [(3, .int 0), (2, .ref r2), (1, .ref r1), (0, .ref b)]) : W p l e room_1 s m #[Value.ref b] below meth c H locs cells slots (lw_Z below #[Value.ref b] s) (F0 m 2849 ls []) := by
  refine lv_iinc (v := 6) (lv' := [(3, .int 6), (2, .ref r2), (1, .ref r1), (0, .ref b)]) hx hb dL_law_2849 hl (k := 0) rfl (by decide +kernel) (by decide) rfl (fun ls hl => ?_)
  refine lv_goto (tgt := 18) hx hb dL_law_2852 (by decide) ?_
  exact law_out hx hb hr hlocks hX hbl hbA hAf hS hc1 hc2 (lv_at hl 0 rfl) (lv_at hl 3 rfl) (by decide +kernel)
end LW
set_option maxHeartbeats 4000000 in
set_option maxRecDepth 100000 in
theorem law_c0 {p : Program} {e : Env} {s : State} {m : MethodId} {below : List Frame} {meth : Method} {c : Code} (l : Launch) {b : Nat} {xs : Nat → Int32} {A : Nat → Prop} {D : va_G} {k : Nat → ClassId} {q : Nat → Nat} {H : Heap} {locs : List Loc} {ls : Array Slot} (C : LC p s m meth c b xs A D k q H locs ls) : W p l e room_1 s m #[Value.ref b] below meth c H locs 123 16705 (lw_Z below #[Value.ref b] s) (F0 m 344 ls []) := by
  obtain ⟨hx, hb, hr, hml, hown, hts, hKK, hX, hbl, hbA, hA, hAf, hlocks, hP, hD, hS, hl⟩ := C
  refine lv_aload_n hx hb dL_law_344 rfl (lv_at hl 2 rfl) ?_
  refine CWV (As := []) (rest := []) (wc := [((q 0), .inr (11, [.ref (q 1), .ref (q 2), .ref (q 3), .ref (q 4), .ref (q 5), .ref (q 6), .ref (q 7), .ref (q 8), .ref (q 9), .ref (q 10), .ref (q 11), .int 0, .int 0, .int 0, .long 0, .long 1])), ((q 2), .inr (8, [.ref (q 20), .ref (q 21), .ref (q 22)])), ((q 20), .inr (5, [.ref (q 23), .ref (q 24), .ref (q 25), .int 0, .int 0, .int 0, .int 0])), ((q 21), .inr (0, [.ref (q 26), .ref (q 27), .ref (q 28), .ref (q 29), .int 0, .int 0]))]) (wr := [((q 200), .inr (12, [.ref (q 201), .ref (q 202), .int 0, .long 0, .long 1, .ref (q 203), .ref (q 204), .ref (q 205), .ref (q 206), .ref (q 207), .int 0, .int 0, .int 0, .int 0, .int 0, .int 0, .int (-1), .int (-1), .int 0, .int 0, .int 0, .ref (q 208), .int 0, .int 0, .ref (q 209), .ref (q 210), .ref (q 211), .ref (q 212), .ref (q 213), .int 0, .int 0, .ref (q 214), .ref (q 215), .ref (q 216), .int 0, .int 0])), ((q 201), .inl (k 1, 5340, .inl at0))]) hx hb hml hown hts hKK hP hD hS hA (p_status l D k q) ci_X11_status qm_L_13 ⟨Nat.le_of_ble_eq_true rfl, Nat.le_of_ble_eq_true rfl⟩ ⟨Nat.le_of_ble_eq_true rfl, Nat.le_of_ble_eq_true rfl⟩ [0, 11, 12, 16] [66, 67] rfl rfl rfl rfl rfl (by decide) 0 rfl rfl rfl hl.1 rfl (Nat.le_of_ble_eq_true rfl) dL_law_345 (fun u_1 H locs hφ hP hD hS => ?_)
  have hP : va_P D vwCl [((q 200), .inr (12, [.ref (q 201), .ref (q 202), .int 0, .long 0, .long 1, .ref (q 203), .ref (q 204), .ref (q 205), .ref (q 206), .ref (q 207), .int 0, .int 0, .int 0, .int 0, .int 0, .int 0, .int (-1), .int (-1), .int 0, .int 0, .int 0, .ref (q 208), .int 0, .int 0, .ref (q 209), .ref (q 210), .ref (q 211), .ref (q 212), .ref (q 213), .int 0, .int 0, .ref (q 214), .ref (q 215), .ref (q 216), .int 0, .int 0])), ((q 201), .inl (k 1, 5340, .inl at0))] H := hP
  have hD : va_D A [((q 200), .inr (12, [.ref (q 201), .ref (q 202), .int 0, .long 0, .long 1, .ref (q 203), .ref (q 204), .ref (q 205), .ref (q 206), .ref (q 207), .int 0, .int 0, .int 0, .int 0, .int 0, .int 0, .int (-1), .int (-1), .int 0, .int 0, .int 0, .ref (q 208), .int 0, .int 0, .ref (q 209), .ref (q 210), .ref (q 211), .ref (q 212), .ref (q 213), .int 0, .int 0, .ref (q 214), .ref (q 215), .ref (q 216), .int 0, .int 0])), ((q 201), .inl (k 1, 5340, .inl at0))] := hD
  refine W.eq (g2 := F0 m 348 ls [.int 0]) rfl ?_
  refine lv_aload_n hx hb dL_law_348 rfl (lv_at hl 1 rfl) ?_
  refine CWV (As := []) (rest := [.int 0]) (wc := [((q 200), .inr (12, [.ref (q 201), .ref (q 202), .int 0, .long 0, .long 1, .ref (q 203), .ref (q 204), .ref (q 205), .ref (q 206), .ref (q 207), .int 0, .int 0, .int 0, .int 0, .int 0, .int 0, .int (-1), .int (-1), .int 0, .int 0, .int 0, .ref (q 208), .int 0, .int 0, .ref (q 209), .ref (q 210), .ref (q 211), .ref (q 212), .ref (q 213), .int 0, .int 0, .ref (q 214), .ref (q 215), .ref (q 216), .int 0, .int 0])), ((q 201), .inl (k 1, 5340, .inl at0))]) (wr := []) hx hb hml hown hts hKK hP hD hS hA (r_status l D k q) ci_X12_status qm_L_17 ⟨Nat.le_of_ble_eq_true rfl, Nat.le_of_ble_eq_true rfl⟩ ⟨Nat.le_of_ble_eq_true rfl, Nat.le_of_ble_eq_true rfl⟩ [0, 1] [] rfl rfl rfl rfl rfl (by decide) 0 rfl rfl rfl hl.1 rfl (Nat.le_of_ble_eq_true rfl) dL_law_349 (fun u_2 H locs hφ hP hD hS => ?_)
  have hP : va_P D vwCl [] H := hP
  have hD : va_D A [] := hD
  refine W.eq (g2 := F0 m 352 ls [.int 0, .int 0]) rfl ?_
  refine lv_icmp_eq (tgt := 2849) hx hb dL_law_352 (by decide) (fun _ => ?_) (fun c => absurd (by decide) c)
  exact law_done hx hb hr hlocks hX hbl hbA hAf hS (by decide) (by decide) hl
set_option maxHeartbeats 4000000 in
set_option maxRecDepth 100000 in
theorem law_c1 {p : Program} {e : Env} {s : State} {m : MethodId} {below : List Frame} {meth : Method} {c : Code} (l : Launch) {b : Nat} {xs : Nat → Int32} {A : Nat → Prop} {D : va_G} {k : Nat → ClassId} {q : Nat → Nat} {H : Heap} {locs : List Loc} {ls : Array Slot} (C : LC p s m meth c b xs A D k q H locs ls) : W p l e room_1 s m #[Value.ref b] below meth c H locs 123 16705 (lw_Z below #[Value.ref b] s) (F0 m 357 ls []) := by
  obtain ⟨hx, hb, hr, hml, hown, hts, hKK, hX, hbl, hbA, hA, hAf, hlocks, hP, hD, hS, hl⟩ := C
  refine lv_aload_n hx hb dL_law_357 rfl (lv_at hl 2 rfl) ?_
  refine CWV (As := []) (rest := []) (wc := [((q 0), .inr (11, [.ref (q 1), .ref (q 2), .ref (q 3), .ref (q 4), .ref (q 5), .ref (q 6), .ref (q 7), .ref (q 8), .ref (q 9), .ref (q 10), .ref (q 11), .int 0, .int 0, .int 0, .long 0, .long 1])), ((q 2), .inr (8, [.ref (q 20), .ref (q 21), .ref (q 22)])), ((q 20), .inr (5, [.ref (q 23), .ref (q 24), .ref (q 25), .int 0, .int 0, .int 0, .int 0])), ((q 21), .inr (0, [.ref (q 26), .ref (q 27), .ref (q 28), .ref (q 29), .int 0, .int 0]))]) (wr := [((q 200), .inr (12, [.ref (q 201), .ref (q 202), .int 0, .long 0, .long 1, .ref (q 203), .ref (q 204), .ref (q 205), .ref (q 206), .ref (q 207), .int 0, .int 0, .int 0, .int 0, .int 0, .int 0, .int (-1), .int (-1), .int 0, .int 0, .int 0, .ref (q 208), .int 0, .int 0, .ref (q 209), .ref (q 210), .ref (q 211), .ref (q 212), .ref (q 213), .int 0, .int 0, .ref (q 214), .ref (q 215), .ref (q 216), .int 0, .int 0])), ((q 201), .inl (k 1, 5340, .inl at0))]) hx hb hml hown hts hKK hP hD hS hA (p_top l D k q) ci_X11_top qm_L_18 ⟨Nat.le_of_ble_eq_true rfl, Nat.le_of_ble_eq_true rfl⟩ ⟨Nat.le_of_ble_eq_true rfl, Nat.le_of_ble_eq_true rfl⟩ [0, 11, 12, 16] [66, 67] rfl rfl rfl rfl rfl (by decide) 0 rfl rfl rfl hl.1 rfl (Nat.le_of_ble_eq_true rfl) dL_law_358 (fun u_1 H locs hφ hP hD hS => ?_)
  have hP : va_P D vwCl [((q 200), .inr (12, [.ref (q 201), .ref (q 202), .int 0, .long 0, .long 1, .ref (q 203), .ref (q 204), .ref (q 205), .ref (q 206), .ref (q 207), .int 0, .int 0, .int 0, .int 0, .int 0, .int 0, .int (-1), .int (-1), .int 0, .int 0, .int 0, .ref (q 208), .int 0, .int 0, .ref (q 209), .ref (q 210), .ref (q 211), .ref (q 212), .ref (q 213), .int 0, .int 0, .ref (q 214), .ref (q 215), .ref (q 216), .int 0, .int 0])), ((q 201), .inl (k 1, 5340, .inl at0))] H := hP
  have hD : va_D A [((q 200), .inr (12, [.ref (q 201), .ref (q 202), .int 0, .long 0, .long 1, .ref (q 203), .ref (q 204), .ref (q 205), .ref (q 206), .ref (q 207), .int 0, .int 0, .int 0, .int 0, .int 0, .int 0, .int (-1), .int (-1), .int 0, .int 0, .int 0, .ref (q 208), .int 0, .int 0, .ref (q 209), .ref (q 210), .ref (q 211), .ref (q 212), .ref (q 213), .int 0, .int 0, .ref (q 214), .ref (q 215), .ref (q 216), .int 0, .int 0])), ((q 201), .inl (k 1, 5340, .inl at0))] := hD
  refine W.eq (g2 := F0 m 361 ls [.long 0]) rfl ?_
  refine lv_aload_n hx hb dL_law_361 rfl (lv_at hl 1 rfl) ?_
  refine CWV (As := []) (rest := [.long 0]) (wc := [((q 200), .inr (12, [.ref (q 201), .ref (q 202), .int 0, .long 0, .long 1, .ref (q 203), .ref (q 204), .ref (q 205), .ref (q 206), .ref (q 207), .int 0, .int 0, .int 0, .int 0, .int 0, .int 0, .int (-1), .int (-1), .int 0, .int 0, .int 0, .ref (q 208), .int 0, .int 0, .ref (q 209), .ref (q 210), .ref (q 211), .ref (q 212), .ref (q 213), .int 0, .int 0, .ref (q 214), .ref (q 215), .ref (q 216), .int 0, .int 0])), ((q 201), .inl (k 1, 5340, .inl at0))]) (wr := []) hx hb hml hown hts hKK hP hD hS hA (r_top l D k q) ci_X12_top qm_L_22 ⟨Nat.le_of_ble_eq_true rfl, Nat.le_of_ble_eq_true rfl⟩ ⟨Nat.le_of_ble_eq_true rfl, Nat.le_of_ble_eq_true rfl⟩ [0, 1] [] rfl rfl rfl rfl rfl (by decide) 0 rfl rfl rfl hl.1 rfl (Nat.le_of_ble_eq_true rfl) dL_law_362 (fun u_2 H locs hφ hP hD hS => ?_)
  have hP : va_P D vwCl [] H := hP
  have hD : va_D A [] := hD
  refine W.eq (g2 := F0 m 365 ls [.long 0, .long 0]) rfl ?_
  refine W.lcmp hx hb dL_law_365 ?_
  refine lv_if_eq (tgt := 2849) hx hb dL_law_366 (by decide) (fun _ => ?_) (fun c => absurd (by decide) c)
  exact law_done hx hb hr hlocks hX hbl hbA hAf hS (by decide) (by decide) hl
set_option maxHeartbeats 4000000 in
set_option maxRecDepth 100000 in
theorem law_c2 {p : Program} {e : Env} {s : State} {m : MethodId} {below : List Frame} {meth : Method} {c : Code} (l : Launch) {b : Nat} {xs : Nat → Int32} {A : Nat → Prop} {D : va_G} {k : Nat → ClassId} {q : Nat → Nat} {H : Heap} {locs : List Loc} {ls : Array Slot} (C : LC p s m meth c b xs A D k q H locs ls) : W p l e room_1 s m #[Value.ref b] below meth c H locs 123 16705 (lw_Z below #[Value.ref b] s) (F0 m 371 ls []) := by
  obtain ⟨hx, hb, hr, hml, hown, hts, hKK, hX, hbl, hbA, hA, hAf, hlocks, hP, hD, hS, hl⟩ := C
  refine lv_aload_n hx hb dL_law_371 rfl (lv_at hl 2 rfl) ?_
  refine CWV (As := []) (rest := []) (wc := [((q 0), .inr (11, [.ref (q 1), .ref (q 2), .ref (q 3), .ref (q 4), .ref (q 5), .ref (q 6), .ref (q 7), .ref (q 8), .ref (q 9), .ref (q 10), .ref (q 11), .int 0, .int 0, .int 0, .long 0, .long 1])), ((q 2), .inr (8, [.ref (q 20), .ref (q 21), .ref (q 22)])), ((q 20), .inr (5, [.ref (q 23), .ref (q 24), .ref (q 25), .int 0, .int 0, .int 0, .int 0])), ((q 21), .inr (0, [.ref (q 26), .ref (q 27), .ref (q 28), .ref (q 29), .int 0, .int 0]))]) (wr := [((q 200), .inr (12, [.ref (q 201), .ref (q 202), .int 0, .long 0, .long 1, .ref (q 203), .ref (q 204), .ref (q 205), .ref (q 206), .ref (q 207), .int 0, .int 0, .int 0, .int 0, .int 0, .int 0, .int (-1), .int (-1), .int 0, .int 0, .int 0, .ref (q 208), .int 0, .int 0, .ref (q 209), .ref (q 210), .ref (q 211), .ref (q 212), .ref (q 213), .int 0, .int 0, .ref (q 214), .ref (q 215), .ref (q 216), .int 0, .int 0])), ((q 201), .inl (k 1, 5340, .inl at0))]) hx hb hml hown hts hKK hP hD hS hA (p_bottom l D k q) ci_X11_bottom qm_L_23 ⟨Nat.le_of_ble_eq_true rfl, Nat.le_of_ble_eq_true rfl⟩ ⟨Nat.le_of_ble_eq_true rfl, Nat.le_of_ble_eq_true rfl⟩ [0, 11, 12, 16] [66, 67] rfl rfl rfl rfl rfl (by decide) 0 rfl rfl rfl hl.1 rfl (Nat.le_of_ble_eq_true rfl) dL_law_372 (fun u_1 H locs hφ hP hD hS => ?_)
  have hP : va_P D vwCl [((q 200), .inr (12, [.ref (q 201), .ref (q 202), .int 0, .long 0, .long 1, .ref (q 203), .ref (q 204), .ref (q 205), .ref (q 206), .ref (q 207), .int 0, .int 0, .int 0, .int 0, .int 0, .int 0, .int (-1), .int (-1), .int 0, .int 0, .int 0, .ref (q 208), .int 0, .int 0, .ref (q 209), .ref (q 210), .ref (q 211), .ref (q 212), .ref (q 213), .int 0, .int 0, .ref (q 214), .ref (q 215), .ref (q 216), .int 0, .int 0])), ((q 201), .inl (k 1, 5340, .inl at0))] H := hP
  have hD : va_D A [((q 200), .inr (12, [.ref (q 201), .ref (q 202), .int 0, .long 0, .long 1, .ref (q 203), .ref (q 204), .ref (q 205), .ref (q 206), .ref (q 207), .int 0, .int 0, .int 0, .int 0, .int 0, .int 0, .int (-1), .int (-1), .int 0, .int 0, .int 0, .ref (q 208), .int 0, .int 0, .ref (q 209), .ref (q 210), .ref (q 211), .ref (q 212), .ref (q 213), .int 0, .int 0, .ref (q 214), .ref (q 215), .ref (q 216), .int 0, .int 0])), ((q 201), .inl (k 1, 5340, .inl at0))] := hD
  refine W.eq (g2 := F0 m 375 ls [.long 1]) rfl ?_
  refine lv_aload_n hx hb dL_law_375 rfl (lv_at hl 1 rfl) ?_
  refine CWV (As := []) (rest := [.long 1]) (wc := [((q 200), .inr (12, [.ref (q 201), .ref (q 202), .int 0, .long 0, .long 1, .ref (q 203), .ref (q 204), .ref (q 205), .ref (q 206), .ref (q 207), .int 0, .int 0, .int 0, .int 0, .int 0, .int 0, .int (-1), .int (-1), .int 0, .int 0, .int 0, .ref (q 208), .int 0, .int 0, .ref (q 209), .ref (q 210), .ref (q 211), .ref (q 212), .ref (q 213), .int 0, .int 0, .ref (q 214), .ref (q 215), .ref (q 216), .int 0, .int 0])), ((q 201), .inl (k 1, 5340, .inl at0))]) (wr := []) hx hb hml hown hts hKK hP hD hS hA (r_bottom l D k q) ci_X12_bottom qm_L_26 ⟨Nat.le_of_ble_eq_true rfl, Nat.le_of_ble_eq_true rfl⟩ ⟨Nat.le_of_ble_eq_true rfl, Nat.le_of_ble_eq_true rfl⟩ [0, 1] [] rfl rfl rfl rfl rfl (by decide) 0 rfl rfl rfl hl.1 rfl (Nat.le_of_ble_eq_true rfl) dL_law_376 (fun u_2 H locs hφ hP hD hS => ?_)
  have hP : va_P D vwCl [] H := hP
  have hD : va_D A [] := hD
  refine W.eq (g2 := F0 m 379 ls [.long 1, .long 1]) rfl ?_
  refine W.lcmp hx hb dL_law_379 ?_
  refine lv_if_eq (tgt := 2849) hx hb dL_law_380 (by decide) (fun _ => ?_) (fun c => absurd (by decide) c)
  exact law_done hx hb hr hlocks hX hbl hbA hAf hS (by decide) (by decide) hl
set_option maxHeartbeats 4000000 in
set_option maxRecDepth 100000 in
theorem law_c3 {p : Program} {e : Env} {s : State} {m : MethodId} {below : List Frame} {meth : Method} {c : Code} (l : Launch) {b : Nat} {xs : Nat → Int32} {A : Nat → Prop} {D : va_G} {k : Nat → ClassId} {q : Nat → Nat} {H : Heap} {locs : List Loc} {ls : Array Slot} (C : LC p s m meth c b xs A D k q H locs ls) : W p l e room_1 s m #[Value.ref b] below meth c H locs 123 16705 (lw_Z below #[Value.ref b] s) (F0 m 385 ls []) := by
  obtain ⟨hx, hb, hr, hml, hown, hts, hKK, hX, hbl, hbA, hA, hAf, hlocks, hP, hD, hS, hl⟩ := C
  refine lv_aload_n hx hb dL_law_385 rfl (lv_at hl 2 rfl) ?_
  refine lv_aload_n hx hb dL_law_386 rfl (lv_at hl 3 rfl) ?_
  refine lv_iload_n hx hb dL_law_387 rfl (lv_at hl 0 rfl) ?_
  refine lv_iconst (v := 1) hx hb dL_law_388 (by decide) ?_
  refine lv_iadd hx hb dL_law_389 ?_
  refine lv_topi (fun x_1 ex_1 => ?_)
  obtain rfl : x_1 = 1 := ex_1.trans (by decide +kernel)
  refine va_sld hx hb hX hbl hbA hS (xin 1 6 rfl (by decide) (by decide)) dL_law_390 ?_
  refine W.eq (g2 := F0 m 391 ls [.int (xs 1), .ref (q 0)]) rfl ?_
  refine lv_aload_n hx hb dL_law_391 rfl (lv_at hl 3 rfl) ?_
  refine lv_iload_n hx hb dL_law_392 rfl (lv_at hl 0 rfl) ?_
  refine lv_iconst (v := 2) hx hb dL_law_393 (by decide) ?_
  refine lv_iadd hx hb dL_law_394 ?_
  refine lv_topi (fun x_2 ex_2 => ?_)
  obtain rfl : x_2 = 2 := ex_2.trans (by decide +kernel)
  refine va_sld hx hb hX hbl hbA hS (xin 2 6 rfl (by decide) (by decide)) dL_law_395 ?_
  refine W.eq (g2 := F0 m 396 ls [.int (xs 2), .int (xs 1), .ref (q 0)]) rfl ?_
  refine lv_aload_n hx hb dL_law_396 rfl (lv_at hl 3 rfl) ?_
  refine lv_iload_n hx hb dL_law_397 rfl (lv_at hl 0 rfl) ?_
  refine lv_iconst (v := 3) hx hb dL_law_398 (by decide) ?_
  refine lv_iadd hx hb dL_law_399 ?_
  refine lv_topi (fun x_3 ex_3 => ?_)
  obtain rfl : x_3 = 3 := ex_3.trans (by decide +kernel)
  refine va_sld hx hb hX hbl hbA hS (xin 3 6 rfl (by decide) (by decide)) dL_law_400 ?_
  refine W.eq (g2 := F0 m 401 ls [.int (xs 3), .int (xs 2), .int (xs 1), .ref (q 0)]) rfl ?_
  refine CWV (As := [.int (xs 1), .int (xs 2), .int (xs 3)]) (rest := []) (wc := [((q 0), .inr (11, [.ref (q 1), .ref (q 2), .ref (q 3), .ref (q 4), .ref (q 5), .ref (q 6), .ref (q 7), .ref (q 8), .ref (q 9), .ref (q 10), .ref (q 11), .int 0, .int 0, .int 0, .long 0, .long 1])), ((q 1), .inl (k 3, 4, .inr (.inr (.inr (.inr (fun i => some (q (120 + i)))))))), ((q 120), .inr (7, [.ref (q 124), .int 0, .int (-1)])), ((q 121), .inr (7, [.ref (q 125), .int 0, .int (-1)])), ((q 122), .inr (7, [.ref (q 126), .int 0, .int (-1)])), ((q 123), .inr (7, [.ref (q 127), .int 0, .int (-1)])), ((q 124), .inl (k 2, 60, .inr (.inl (fun _ => 0)))), ((q 125), .inl (k 2, 60, .inr (.inl (fun _ => 0)))), ((q 126), .inl (k 2, 60, .inr (.inl (fun _ => 0)))), ((q 127), .inl (k 2, 60, .inr (.inl (fun _ => 0))))]) (wr := [((q 200), .inr (12, [.ref (q 201), .ref (q 202), .int 0, .long 0, .long 1, .ref (q 203), .ref (q 204), .ref (q 205), .ref (q 206), .ref (q 207), .int 0, .int 0, .int 0, .int 0, .int 0, .int 0, .int (-1), .int (-1), .int 0, .int 0, .int 0, .ref (q 208), .int 0, .int 0, .ref (q 209), .ref (q 210), .ref (q 211), .ref (q 212), .ref (q 213), .int 0, .int 0, .ref (q 214), .ref (q 215), .ref (q 216), .int 0, .int 0])), ((q 203), .inl (k 1, 4, .inl (fun _ => 0))), ((q 204), .inl (k 1, 4, .inl (fun _ => -1))), ((q 205), .inl (k 2, 240, .inr (.inl (fun _ => 0))))]) hx hb hml hown hts hKK hP hD hS hA (p_tray l D k q (xs 1) (xs 2) (xs 3)) ci_X11_tray qm_L_27 ⟨Nat.le_of_ble_eq_true rfl, Nat.le_of_ble_eq_true rfl⟩ ⟨Nat.le_of_ble_eq_true rfl, Nat.le_of_ble_eq_true rfl⟩ [0, 1, 2, 3, 4, 5, 6, 7, 8, 9] [66, 69, 70, 71] rfl rfl rfl rfl rfl (by decide) 0 rfl rfl rfl hl.1 rfl (Nat.le_of_ble_eq_true rfl) dL_law_401 (fun u_4 H locs hφ hP hD hS => ?_)
  have hP : va_P D vwCl [((q 200), .inr (12, [.ref (q 201), .ref (q 202), .int 0, .long 0, .long 1, .ref (q 203), .ref (q 204), .ref (q 205), .ref (q 206), .ref (q 207), .int 0, .int 0, .int 0, .int 0, .int 0, .int 0, .int (-1), .int (-1), .int 0, .int 0, .int 0, .ref (q 208), .int 0, .int 0, .ref (q 209), .ref (q 210), .ref (q 211), .ref (q 212), .ref (q 213), .int 0, .int 0, .ref (q 214), .ref (q 215), .ref (q 216), .int 0, .int 0])), ((q 203), .inl (k 1, 4, .inl (fun _ => 0))), ((q 204), .inl (k 1, 4, .inl (fun _ => -1))), ((q 205), .inl (k 2, 240, .inr (.inl (fun _ => 0))))] H := hP
  have hD : va_D A [((q 200), .inr (12, [.ref (q 201), .ref (q 202), .int 0, .long 0, .long 1, .ref (q 203), .ref (q 204), .ref (q 205), .ref (q 206), .ref (q 207), .int 0, .int 0, .int 0, .int 0, .int 0, .int 0, .int (-1), .int (-1), .int 0, .int 0, .int 0, .ref (q 208), .int 0, .int 0, .ref (q 209), .ref (q 210), .ref (q 211), .ref (q 212), .ref (q 213), .int 0, .int 0, .ref (q 214), .ref (q 215), .ref (q 216), .int 0, .int 0])), ((q 203), .inl (k 1, 4, .inl (fun _ => 0))), ((q 204), .inl (k 1, 4, .inl (fun _ => -1))), ((q 205), .inl (k 2, 240, .inr (.inl (fun _ => 0))))] := hD
  refine W.eq (g2 := F0 m 404 ls [.int (trA (xs 1) (xs 2) (xs 3))]) rfl ?_
  refine lv_aload_n hx hb dL_law_404 rfl (lv_at hl 1 rfl) ?_
  refine lv_aload_n hx hb dL_law_405 rfl (lv_at hl 3 rfl) ?_
  refine lv_iload_n hx hb dL_law_406 rfl (lv_at hl 0 rfl) ?_
  refine lv_iconst (v := 1) hx hb dL_law_407 (by decide) ?_
  refine lv_iadd hx hb dL_law_408 ?_
  refine lv_topi (fun x_5 ex_5 => ?_)
  obtain rfl : x_5 = 1 := ex_5.trans (by decide +kernel)
  refine va_sld hx hb hX hbl hbA hS (xin 1 6 rfl (by decide) (by decide)) dL_law_409 ?_
  refine W.eq (g2 := F0 m 410 ls [.int (xs 1), .ref (q 200), .int (trA (xs 1) (xs 2) (xs 3))]) rfl ?_
  refine lv_aload_n hx hb dL_law_410 rfl (lv_at hl 3 rfl) ?_
  refine lv_iload_n hx hb dL_law_411 rfl (lv_at hl 0 rfl) ?_
  refine lv_iconst (v := 2) hx hb dL_law_412 (by decide) ?_
  refine lv_iadd hx hb dL_law_413 ?_
  refine lv_topi (fun x_6 ex_6 => ?_)
  obtain rfl : x_6 = 2 := ex_6.trans (by decide +kernel)
  refine va_sld hx hb hX hbl hbA hS (xin 2 6 rfl (by decide) (by decide)) dL_law_414 ?_
  refine W.eq (g2 := F0 m 415 ls [.int (xs 2), .int (xs 1), .ref (q 200), .int (trA (xs 1) (xs 2) (xs 3))]) rfl ?_
  refine lv_aload_n hx hb dL_law_415 rfl (lv_at hl 3 rfl) ?_
  refine lv_iload_n hx hb dL_law_416 rfl (lv_at hl 0 rfl) ?_
  refine lv_iconst (v := 3) hx hb dL_law_417 (by decide) ?_
  refine lv_iadd hx hb dL_law_418 ?_
  refine lv_topi (fun x_7 ex_7 => ?_)
  obtain rfl : x_7 = 3 := ex_7.trans (by decide +kernel)
  refine va_sld hx hb hX hbl hbA hS (xin 3 6 rfl (by decide) (by decide)) dL_law_419 ?_
  refine W.eq (g2 := F0 m 420 ls [.int (xs 3), .int (xs 2), .int (xs 1), .ref (q 200), .int (trA (xs 1) (xs 2) (xs 3))]) rfl ?_
  refine CWV (As := [.int (xs 1), .int (xs 2), .int (xs 3)]) (rest := [.int (trA (xs 1) (xs 2) (xs 3))]) (wc := [((q 200), .inr (12, [.ref (q 201), .ref (q 202), .int 0, .long 0, .long 1, .ref (q 203), .ref (q 204), .ref (q 205), .ref (q 206), .ref (q 207), .int 0, .int 0, .int 0, .int 0, .int 0, .int 0, .int (-1), .int (-1), .int 0, .int 0, .int 0, .ref (q 208), .int 0, .int 0, .ref (q 209), .ref (q 210), .ref (q 211), .ref (q 212), .ref (q 213), .int 0, .int 0, .ref (q 214), .ref (q 215), .ref (q 216), .int 0, .int 0])), ((q 203), .inl (k 1, 4, .inl (fun _ => 0))), ((q 204), .inl (k 1, 4, .inl (fun _ => -1))), ((q 205), .inl (k 2, 240, .inr (.inl (fun _ => 0))))]) (wr := []) hx hb hml hown hts hKK hP hD hS hA (r_tray l D k q (xs 1) (xs 2) (xs 3)) ci_X12_tray qm_L_31 ⟨Nat.le_of_ble_eq_true rfl, Nat.le_of_ble_eq_true rfl⟩ ⟨Nat.le_of_ble_eq_true rfl, Nat.le_of_ble_eq_true rfl⟩ [0, 1, 2, 3] [] rfl rfl rfl rfl rfl (by decide) 0 rfl rfl rfl hl.1 rfl (Nat.le_of_ble_eq_true rfl) dL_law_420 (fun u_8 H locs hφ hP hD hS => ?_)
  have hP : va_P D vwCl [] H := hP
  have hD : va_D A [] := hD
  refine W.eq (g2 := F0 m 423 ls [.int (trA (xs 1) (xs 2) (xs 3)), .int (trA (xs 1) (xs 2) (xs 3))]) rfl ?_
  refine lv_icmp_eq (tgt := 2849) hx hb dL_law_423 (by decide) (fun _ => ?_) (fun c => absurd rfl c)
  exact law_done hx hb hr hlocks hX hbl hbA hAf hS (by decide) (by decide) hl
set_option maxHeartbeats 4000000 in
set_option maxRecDepth 100000 in
theorem law_c4 {p : Program} {e : Env} {s : State} {m : MethodId} {below : List Frame} {meth : Method} {c : Code} (l : Launch) {b : Nat} {xs : Nat → Int32} {A : Nat → Prop} {D : va_G} {k : Nat → ClassId} {q : Nat → Nat} {H : Heap} {locs : List Loc} {ls : Array Slot} (C : LC p s m meth c b xs A D k q H locs ls) : W p l e room_1 s m #[Value.ref b] below meth c H locs 123 16705 (lw_Z below #[Value.ref b] s) (F0 m 428 ls []) := by
  obtain ⟨hx, hb, hr, hml, hown, hts, hKK, hX, hbl, hbA, hA, hAf, hlocks, hP, hD, hS, hl⟩ := C
  refine lv_aload_n hx hb dL_law_428 rfl (lv_at hl 2 rfl) ?_
  refine lv_aload_n hx hb dL_law_429 rfl (lv_at hl 3 rfl) ?_
  refine lv_iload_n hx hb dL_law_430 rfl (lv_at hl 0 rfl) ?_
  refine lv_iconst (v := 1) hx hb dL_law_431 (by decide) ?_
  refine lv_iadd hx hb dL_law_432 ?_
  refine lv_topi (fun x_1 ex_1 => ?_)
  obtain rfl : x_1 = 1 := ex_1.trans (by decide +kernel)
  refine va_sld hx hb hX hbl hbA hS (xin 1 6 rfl (by decide) (by decide)) dL_law_433 ?_
  refine W.eq (g2 := F0 m 434 ls [.int (xs 1), .ref (q 0)]) rfl ?_
  refine lv_aload_n hx hb dL_law_434 rfl (lv_at hl 3 rfl) ?_
  refine lv_iload_n hx hb dL_law_435 rfl (lv_at hl 0 rfl) ?_
  refine lv_iconst (v := 2) hx hb dL_law_436 (by decide) ?_
  refine lv_iadd hx hb dL_law_437 ?_
  refine lv_topi (fun x_2 ex_2 => ?_)
  obtain rfl : x_2 = 2 := ex_2.trans (by decide +kernel)
  refine va_sld hx hb hX hbl hbA hS (xin 2 6 rfl (by decide) (by decide)) dL_law_438 ?_
  refine W.eq (g2 := F0 m 439 ls [.int (xs 2), .int (xs 1), .ref (q 0)]) rfl ?_
  refine lv_aload_n hx hb dL_law_439 rfl (lv_at hl 3 rfl) ?_
  refine lv_iload_n hx hb dL_law_440 rfl (lv_at hl 0 rfl) ?_
  refine lv_iconst (v := 3) hx hb dL_law_441 (by decide) ?_
  refine lv_iadd hx hb dL_law_442 ?_
  refine lv_topi (fun x_3 ex_3 => ?_)
  obtain rfl : x_3 = 3 := ex_3.trans (by decide +kernel)
  refine va_sld hx hb hX hbl hbA hS (xin 3 6 rfl (by decide) (by decide)) dL_law_443 ?_
  refine W.eq (g2 := F0 m 444 ls [.int (xs 3), .int (xs 2), .int (xs 1), .ref (q 0)]) rfl ?_
  refine lv_i2l (v := (xs 3).toInt64) hx hb dL_law_444 rfl ?_
  refine lv_bipush (v := 32) hx hb dL_law_445 (by decide) ?_
  refine lv_lshl (v := ((xs 3).toInt64) <<< ((32 : Int32).toInt64 &&& 63)) hx hb dL_law_447 rfl ?_
  refine lv_aload_n hx hb dL_law_448 rfl (lv_at hl 3 rfl) ?_
  refine lv_iload_n hx hb dL_law_449 rfl (lv_at hl 0 rfl) ?_
  refine lv_iconst (v := 4) hx hb dL_law_450 (by decide) ?_
  refine lv_iadd hx hb dL_law_451 ?_
  refine lv_topi (fun x_4 ex_4 => ?_)
  obtain rfl : x_4 = 4 := ex_4.trans (by decide +kernel)
  refine va_sld hx hb hX hbl hbA hS (xin 4 6 rfl (by decide) (by decide)) dL_law_452 ?_
  refine W.eq (g2 := F0 m 453 ls [.int (xs 4), .long (((xs 3).toInt64) <<< ((32 : Int32).toInt64 &&& 63)), .int (xs 2), .int (xs 1), .ref (q 0)]) rfl ?_
  refine lv_i2l (v := (xs 4).toInt64) hx hb dL_law_453 rfl ?_
  refine lv_ldc2 (own := RL) (v := 4294967295) hx hb hown (hts _ qk_L_32) dL_law_454 ?_
  refine lv_land hx hb dL_law_457 ?_
  refine lv_topl (fun x_5 ex_5 => ?_)
  refine lv_lor hx hb dL_law_458 ?_
  refine lv_topl (fun x_6 ex_6 => ?_)
  refine CWV (As := [.int (xs 1), .int (xs 2), .long x_6]) (rest := []) (wc := [((q 0), .inr (11, [.ref (q 1), .ref (q 2), .ref (q 3), .ref (q 4), .ref (q 5), .ref (q 6), .ref (q 7), .ref (q 8), .ref (q 9), .ref (q 10), .ref (q 11), .int 0, .int 0, .int 0, .long 0, .long 1])), ((q 1), .inl (k 3, 4, .inr (.inr (.inr (.inr (fun i => some (q (120 + i)))))))), ((q 120), .inr (7, [.ref (q 124), .int 0, .int (-1)])), ((q 121), .inr (7, [.ref (q 125), .int 0, .int (-1)])), ((q 122), .inr (7, [.ref (q 126), .int 0, .int (-1)])), ((q 123), .inr (7, [.ref (q 127), .int 0, .int (-1)]))]) (wr := [((q 200), .inr (12, [.ref (q 201), .ref (q 202), .int 0, .long 0, .long 1, .ref (q 203), .ref (q 204), .ref (q 205), .ref (q 206), .ref (q 207), .int 0, .int 0, .int 0, .int 0, .int 0, .int 0, .int (-1), .int (-1), .int 0, .int 0, .int 0, .ref (q 208), .int 0, .int 0, .ref (q 209), .ref (q 210), .ref (q 211), .ref (q 212), .ref (q 213), .int 0, .int 0, .ref (q 214), .ref (q 215), .ref (q 216), .int 0, .int 0])), ((q 204), .inl (k 1, 4, .inl (fun _ => -1)))]) hx hb hml hown hts hKK hP hD hS hA (p_write l D k q (xs 1) (xs 2) x_6) ci_X11_write qm_L_34 ⟨Nat.le_of_ble_eq_true rfl, Nat.le_of_ble_eq_true rfl⟩ ⟨Nat.le_of_ble_eq_true rfl, Nat.le_of_ble_eq_true rfl⟩ [0, 1, 2, 3, 4, 5] [66, 70] rfl rfl rfl rfl rfl (by decide) 0 rfl rfl rfl hl.1 rfl (Nat.le_of_ble_eq_true rfl) dL_law_459 (fun u_7 H locs hφ hP hD hS => ?_)
  have hP : va_P D vwCl [((q 200), .inr (12, [.ref (q 201), .ref (q 202), .int 0, .long 0, .long 1, .ref (q 203), .ref (q 204), .ref (q 205), .ref (q 206), .ref (q 207), .int 0, .int 0, .int 0, .int 0, .int 0, .int 0, .int (-1), .int (-1), .int 0, .int 0, .int 0, .ref (q 208), .int 0, .int 0, .ref (q 209), .ref (q 210), .ref (q 211), .ref (q 212), .ref (q 213), .int 0, .int 0, .ref (q 214), .ref (q 215), .ref (q 216), .int 0, .int 0])), ((q 204), .inl (k 1, 4, .inl (fun _ => -1)))] H := hP
  have hD : va_D A [((q 200), .inr (12, [.ref (q 201), .ref (q 202), .int 0, .long 0, .long 1, .ref (q 203), .ref (q 204), .ref (q 205), .ref (q 206), .ref (q 207), .int 0, .int 0, .int 0, .int 0, .int 0, .int 0, .int (-1), .int (-1), .int 0, .int 0, .int 0, .ref (q 208), .int 0, .int 0, .ref (q 209), .ref (q 210), .ref (q 211), .ref (q 212), .ref (q 213), .int 0, .int 0, .ref (q 214), .ref (q 215), .ref (q 216), .int 0, .int 0])), ((q 204), .inl (k 1, 4, .inl (fun _ => -1)))] := hD
  refine W.eq (g2 := F0 m 462 ls [.int 0]) rfl ?_
  refine lv_aload_n hx hb dL_law_462 rfl (lv_at hl 1 rfl) ?_
  refine lv_aload_n hx hb dL_law_463 rfl (lv_at hl 3 rfl) ?_
  refine lv_iload_n hx hb dL_law_464 rfl (lv_at hl 0 rfl) ?_
  refine lv_iconst (v := 1) hx hb dL_law_465 (by decide) ?_
  refine lv_iadd hx hb dL_law_466 ?_
  refine lv_topi (fun x_8 ex_8 => ?_)
  obtain rfl : x_8 = 1 := ex_8.trans (by decide +kernel)
  refine va_sld hx hb hX hbl hbA hS (xin 1 6 rfl (by decide) (by decide)) dL_law_467 ?_
  refine W.eq (g2 := F0 m 468 ls [.int (xs 1), .ref (q 200), .int 0]) rfl ?_
  refine lv_aload_n hx hb dL_law_468 rfl (lv_at hl 3 rfl) ?_
  refine lv_iload_n hx hb dL_law_469 rfl (lv_at hl 0 rfl) ?_
  refine lv_iconst (v := 2) hx hb dL_law_470 (by decide) ?_
  refine lv_iadd hx hb dL_law_471 ?_
  refine lv_topi (fun x_9 ex_9 => ?_)
  obtain rfl : x_9 = 2 := ex_9.trans (by decide +kernel)
  refine va_sld hx hb hX hbl hbA hS (xin 2 6 rfl (by decide) (by decide)) dL_law_472 ?_
  refine W.eq (g2 := F0 m 473 ls [.int (xs 2), .int (xs 1), .ref (q 200), .int 0]) rfl ?_
  refine lv_aload_n hx hb dL_law_473 rfl (lv_at hl 3 rfl) ?_
  refine lv_iload_n hx hb dL_law_474 rfl (lv_at hl 0 rfl) ?_
  refine lv_iconst (v := 3) hx hb dL_law_475 (by decide) ?_
  refine lv_iadd hx hb dL_law_476 ?_
  refine lv_topi (fun x_10 ex_10 => ?_)
  obtain rfl : x_10 = 3 := ex_10.trans (by decide +kernel)
  refine va_sld hx hb hX hbl hbA hS (xin 3 6 rfl (by decide) (by decide)) dL_law_477 ?_
  refine W.eq (g2 := F0 m 478 ls [.int (xs 3), .int (xs 2), .int (xs 1), .ref (q 200), .int 0]) rfl ?_
  refine lv_i2l (v := (xs 3).toInt64) hx hb dL_law_478 rfl ?_
  refine lv_bipush (v := 32) hx hb dL_law_479 (by decide) ?_
  refine lv_lshl (v := ((xs 3).toInt64) <<< ((32 : Int32).toInt64 &&& 63)) hx hb dL_law_481 rfl ?_
  refine lv_aload_n hx hb dL_law_482 rfl (lv_at hl 3 rfl) ?_
  refine lv_iload_n hx hb dL_law_483 rfl (lv_at hl 0 rfl) ?_
  refine lv_iconst (v := 4) hx hb dL_law_484 (by decide) ?_
  refine lv_iadd hx hb dL_law_485 ?_
  refine lv_topi (fun x_11 ex_11 => ?_)
  obtain rfl : x_11 = 4 := ex_11.trans (by decide +kernel)
  refine va_sld hx hb hX hbl hbA hS (xin 4 6 rfl (by decide) (by decide)) dL_law_486 ?_
  refine W.eq (g2 := F0 m 487 ls [.int (xs 4), .long (((xs 3).toInt64) <<< ((32 : Int32).toInt64 &&& 63)), .int (xs 2), .int (xs 1), .ref (q 200), .int 0]) rfl ?_
  refine lv_i2l (v := (xs 4).toInt64) hx hb dL_law_487 rfl ?_
  refine lv_ldc2 (own := RL) (v := 4294967295) hx hb hown (hts _ qk_L_32) dL_law_488 ?_
  refine lv_land hx hb dL_law_491 ?_
  refine lv_topl (fun x_12 ex_12 => ?_)
  refine lv_lor hx hb dL_law_492 ?_
  refine lv_topl (fun x_13 ex_13 => ?_)
  refine CWV (As := [.int (xs 1), .int (xs 2), .long x_13]) (rest := [.int 0]) (wc := [((q 200), .inr (12, [.ref (q 201), .ref (q 202), .int 0, .long 0, .long 1, .ref (q 203), .ref (q 204), .ref (q 205), .ref (q 206), .ref (q 207), .int 0, .int 0, .int 0, .int 0, .int 0, .int 0, .int (-1), .int (-1), .int 0, .int 0, .int 0, .ref (q 208), .int 0, .int 0, .ref (q 209), .ref (q 210), .ref (q 211), .ref (q 212), .ref (q 213), .int 0, .int 0, .ref (q 214), .ref (q 215), .ref (q 216), .int 0, .int 0])), ((q 204), .inl (k 1, 4, .inl (fun _ => -1)))]) (wr := []) hx hb hml hown hts hKK hP hD hS hA (r_write l D k q (xs 1) (xs 2) x_13) ci_X12_write qm_L_38 ⟨Nat.le_of_ble_eq_true rfl, Nat.le_of_ble_eq_true rfl⟩ ⟨Nat.le_of_ble_eq_true rfl, Nat.le_of_ble_eq_true rfl⟩ [0, 1] [] rfl rfl rfl rfl rfl (by decide) 0 rfl rfl rfl hl.1 rfl (Nat.le_of_ble_eq_true rfl) dL_law_493 (fun u_14 H locs hφ hP hD hS => ?_)
  have hP : va_P D vwCl [] H := hP
  have hD : va_D A [] := hD
  refine W.eq (g2 := F0 m 496 ls [.int 0, .int 0]) rfl ?_
  refine lv_icmp_eq (tgt := 2849) hx hb dL_law_496 (by decide) (fun _ => ?_) (fun c => absurd (by decide) c)
  exact law_done hx hb hr hlocks hX hbl hbA hAf hS (by decide) (by decide) hl
set_option maxHeartbeats 4000000 in
set_option maxRecDepth 100000 in
theorem law_c5 {p : Program} {e : Env} {s : State} {m : MethodId} {below : List Frame} {meth : Method} {c : Code} (l : Launch) {b : Nat} {xs : Nat → Int32} {A : Nat → Prop} {D : va_G} {k : Nat → ClassId} {q : Nat → Nat} {H : Heap} {locs : List Loc} {ls : Array Slot} (C : LC p s m meth c b xs A D k q H locs ls) : W p l e room_1 s m #[Value.ref b] below meth c H locs 123 16705 (lw_Z below #[Value.ref b] s) (F0 m 501 ls []) := by
  obtain ⟨hx, hb, hr, hml, hown, hts, hKK, hX, hbl, hbA, hA, hAf, hlocks, hP, hD, hS, hl⟩ := C
  refine lv_aload_n hx hb dL_law_501 rfl (lv_at hl 2 rfl) ?_
  refine lv_aload_n hx hb dL_law_502 rfl (lv_at hl 3 rfl) ?_
  refine lv_iload_n hx hb dL_law_503 rfl (lv_at hl 0 rfl) ?_
  refine lv_iconst (v := 1) hx hb dL_law_504 (by decide) ?_
  refine lv_iadd hx hb dL_law_505 ?_
  refine lv_topi (fun x_1 ex_1 => ?_)
  obtain rfl : x_1 = 1 := ex_1.trans (by decide +kernel)
  refine va_sld hx hb hX hbl hbA hS (xin 1 6 rfl (by decide) (by decide)) dL_law_506 ?_
  refine W.eq (g2 := F0 m 507 ls [.int (xs 1), .ref (q 0)]) rfl ?_
  refine lv_aload_n hx hb dL_law_507 rfl (lv_at hl 3 rfl) ?_
  refine lv_iload_n hx hb dL_law_508 rfl (lv_at hl 0 rfl) ?_
  refine lv_iconst (v := 2) hx hb dL_law_509 (by decide) ?_
  refine lv_iadd hx hb dL_law_510 ?_
  refine lv_topi (fun x_2 ex_2 => ?_)
  obtain rfl : x_2 = 2 := ex_2.trans (by decide +kernel)
  refine va_sld hx hb hX hbl hbA hS (xin 2 6 rfl (by decide) (by decide)) dL_law_511 ?_
  refine W.eq (g2 := F0 m 512 ls [.int (xs 2), .int (xs 1), .ref (q 0)]) rfl ?_
  refine CWV (As := [.int (xs 1), .int (xs 2)]) (rest := []) (wc := [((q 0), .inr (11, [.ref (q 1), .ref (q 2), .ref (q 3), .ref (q 4), .ref (q 5), .ref (q 6), .ref (q 7), .ref (q 8), .ref (q 9), .ref (q 10), .ref (q 11), .int 0, .int 0, .int 0, .long 0, .long 1])), ((q 1), .inl (k 3, 4, .inr (.inr (.inr (.inr (fun i => some (q (120 + i)))))))), ((q 120), .inr (7, [.ref (q 124), .int 0, .int (-1)])), ((q 121), .inr (7, [.ref (q 125), .int 0, .int (-1)])), ((q 122), .inr (7, [.ref (q 126), .int 0, .int (-1)])), ((q 123), .inr (7, [.ref (q 127), .int 0, .int (-1)]))]) (wr := [((q 200), .inr (12, [.ref (q 201), .ref (q 202), .int 0, .long 0, .long 1, .ref (q 203), .ref (q 204), .ref (q 205), .ref (q 206), .ref (q 207), .int 0, .int 0, .int 0, .int 0, .int 0, .int 0, .int (-1), .int (-1), .int 0, .int 0, .int 0, .ref (q 208), .int 0, .int 0, .ref (q 209), .ref (q 210), .ref (q 211), .ref (q 212), .ref (q 213), .int 0, .int 0, .ref (q 214), .ref (q 215), .ref (q 216), .int 0, .int 0])), ((q 204), .inl (k 1, 4, .inl (fun _ => -1)))]) hx hb hml hown hts hKK hP hD hS hA (p_read l D k q (xs 1) (xs 2)) ci_X11_read qm_L_39 ⟨Nat.le_of_ble_eq_true rfl, Nat.le_of_ble_eq_true rfl⟩ ⟨Nat.le_of_ble_eq_true rfl, Nat.le_of_ble_eq_true rfl⟩ [0, 1, 2, 3, 4, 5] [66, 70] rfl rfl rfl rfl rfl (by decide) 0 rfl rfl rfl hl.1 rfl (Nat.le_of_ble_eq_true rfl) dL_law_512 (fun u_3 H locs hφ hP hD hS => ?_)
  have hP : va_P D vwCl [((q 200), .inr (12, [.ref (q 201), .ref (q 202), .int 0, .long 0, .long 1, .ref (q 203), .ref (q 204), .ref (q 205), .ref (q 206), .ref (q 207), .int 0, .int 0, .int 0, .int 0, .int 0, .int 0, .int (-1), .int (-1), .int 0, .int 0, .int 0, .ref (q 208), .int 0, .int 0, .ref (q 209), .ref (q 210), .ref (q 211), .ref (q 212), .ref (q 213), .int 0, .int 0, .ref (q 214), .ref (q 215), .ref (q 216), .int 0, .int 0])), ((q 204), .inl (k 1, 4, .inl (fun _ => -1)))] H := hP
  have hD : va_D A [((q 200), .inr (12, [.ref (q 201), .ref (q 202), .int 0, .long 0, .long 1, .ref (q 203), .ref (q 204), .ref (q 205), .ref (q 206), .ref (q 207), .int 0, .int 0, .int 0, .int 0, .int 0, .int 0, .int (-1), .int (-1), .int 0, .int 0, .int 0, .ref (q 208), .int 0, .int 0, .ref (q 209), .ref (q 210), .ref (q 211), .ref (q 212), .ref (q 213), .int 0, .int 0, .ref (q 214), .ref (q 215), .ref (q 216), .int 0, .int 0])), ((q 204), .inl (k 1, 4, .inl (fun _ => -1)))] := hD
  refine W.eq (g2 := F0 m 515 ls [.long (-1)]) rfl ?_
  refine lv_aload_n hx hb dL_law_515 rfl (lv_at hl 1 rfl) ?_
  refine lv_aload_n hx hb dL_law_516 rfl (lv_at hl 3 rfl) ?_
  refine lv_iload_n hx hb dL_law_517 rfl (lv_at hl 0 rfl) ?_
  refine lv_iconst (v := 1) hx hb dL_law_518 (by decide) ?_
  refine lv_iadd hx hb dL_law_519 ?_
  refine lv_topi (fun x_4 ex_4 => ?_)
  obtain rfl : x_4 = 1 := ex_4.trans (by decide +kernel)
  refine va_sld hx hb hX hbl hbA hS (xin 1 6 rfl (by decide) (by decide)) dL_law_520 ?_
  refine W.eq (g2 := F0 m 521 ls [.int (xs 1), .ref (q 200), .long (-1)]) rfl ?_
  refine lv_aload_n hx hb dL_law_521 rfl (lv_at hl 3 rfl) ?_
  refine lv_iload_n hx hb dL_law_522 rfl (lv_at hl 0 rfl) ?_
  refine lv_iconst (v := 2) hx hb dL_law_523 (by decide) ?_
  refine lv_iadd hx hb dL_law_524 ?_
  refine lv_topi (fun x_5 ex_5 => ?_)
  obtain rfl : x_5 = 2 := ex_5.trans (by decide +kernel)
  refine va_sld hx hb hX hbl hbA hS (xin 2 6 rfl (by decide) (by decide)) dL_law_525 ?_
  refine W.eq (g2 := F0 m 526 ls [.int (xs 2), .int (xs 1), .ref (q 200), .long (-1)]) rfl ?_
  refine CWV (As := [.int (xs 1), .int (xs 2)]) (rest := [.long (-1)]) (wc := [((q 200), .inr (12, [.ref (q 201), .ref (q 202), .int 0, .long 0, .long 1, .ref (q 203), .ref (q 204), .ref (q 205), .ref (q 206), .ref (q 207), .int 0, .int 0, .int 0, .int 0, .int 0, .int 0, .int (-1), .int (-1), .int 0, .int 0, .int 0, .ref (q 208), .int 0, .int 0, .ref (q 209), .ref (q 210), .ref (q 211), .ref (q 212), .ref (q 213), .int 0, .int 0, .ref (q 214), .ref (q 215), .ref (q 216), .int 0, .int 0])), ((q 204), .inl (k 1, 4, .inl (fun _ => -1)))]) (wr := []) hx hb hml hown hts hKK hP hD hS hA (r_read l D k q (xs 1) (xs 2)) ci_X12_read qm_L_43 ⟨Nat.le_of_ble_eq_true rfl, Nat.le_of_ble_eq_true rfl⟩ ⟨Nat.le_of_ble_eq_true rfl, Nat.le_of_ble_eq_true rfl⟩ [0, 1] [] rfl rfl rfl rfl rfl (by decide) 0 rfl rfl rfl hl.1 rfl (Nat.le_of_ble_eq_true rfl) dL_law_526 (fun u_6 H locs hφ hP hD hS => ?_)
  have hP : va_P D vwCl [] H := hP
  have hD : va_D A [] := hD
  refine W.eq (g2 := F0 m 529 ls [.long (-1), .long (-1)]) rfl ?_
  refine W.lcmp hx hb dL_law_529 ?_
  refine lv_if_eq (tgt := 2849) hx hb dL_law_530 (by decide) (fun _ => ?_) (fun c => absurd (by decide) c)
  exact law_done hx hb hr hlocks hX hbl hbA hAf hS (by decide) (by decide) hl
set_option maxHeartbeats 4000000 in
set_option maxRecDepth 100000 in
theorem law_c6 {p : Program} {e : Env} {s : State} {m : MethodId} {below : List Frame} {meth : Method} {c : Code} (l : Launch) {b : Nat} {xs : Nat → Int32} {A : Nat → Prop} {D : va_G} {k : Nat → ClassId} {q : Nat → Nat} {H : Heap} {locs : List Loc} {ls : Array Slot} (C : LC p s m meth c b xs A D k q H locs ls) : W p l e room_1 s m #[Value.ref b] below meth c H locs 123 16705 (lw_Z below #[Value.ref b] s) (F0 m 535 ls []) := by
  obtain ⟨hx, hb, hr, hml, hown, hts, hKK, hX, hbl, hbA, hA, hAf, hlocks, hP, hD, hS, hl⟩ := C
  refine lv_aload_n hx hb dL_law_535 rfl (lv_at hl 2 rfl) ?_
  refine lv_aload_n hx hb dL_law_536 rfl (lv_at hl 3 rfl) ?_
  refine lv_iload_n hx hb dL_law_537 rfl (lv_at hl 0 rfl) ?_
  refine lv_iconst (v := 1) hx hb dL_law_538 (by decide) ?_
  refine lv_iadd hx hb dL_law_539 ?_
  refine lv_topi (fun x_1 ex_1 => ?_)
  obtain rfl : x_1 = 1 := ex_1.trans (by decide +kernel)
  refine va_sld hx hb hX hbl hbA hS (xin 1 6 rfl (by decide) (by decide)) dL_law_540 ?_
  refine W.eq (g2 := F0 m 541 ls [.int (xs 1), .ref (q 0)]) rfl ?_
  refine lv_aload_n hx hb dL_law_541 rfl (lv_at hl 3 rfl) ?_
  refine lv_iload_n hx hb dL_law_542 rfl (lv_at hl 0 rfl) ?_
  refine lv_iconst (v := 2) hx hb dL_law_543 (by decide) ?_
  refine lv_iadd hx hb dL_law_544 ?_
  refine lv_topi (fun x_2 ex_2 => ?_)
  obtain rfl : x_2 = 2 := ex_2.trans (by decide +kernel)
  refine va_sld hx hb hX hbl hbA hS (xin 2 6 rfl (by decide) (by decide)) dL_law_545 ?_
  refine W.eq (g2 := F0 m 546 ls [.int (xs 2), .int (xs 1), .ref (q 0)]) rfl ?_
  refine lv_aload_n hx hb dL_law_546 rfl (lv_at hl 3 rfl) ?_
  refine lv_iload_n hx hb dL_law_547 rfl (lv_at hl 0 rfl) ?_
  refine lv_iconst (v := 3) hx hb dL_law_548 (by decide) ?_
  refine lv_iadd hx hb dL_law_549 ?_
  refine lv_topi (fun x_3 ex_3 => ?_)
  obtain rfl : x_3 = 3 := ex_3.trans (by decide +kernel)
  refine va_sld hx hb hX hbl hbA hS (xin 3 6 rfl (by decide) (by decide)) dL_law_550 ?_
  refine W.eq (g2 := F0 m 551 ls [.int (xs 3), .int (xs 2), .int (xs 1), .ref (q 0)]) rfl ?_
  refine lv_aload_n hx hb dL_law_551 rfl (lv_at hl 3 rfl) ?_
  refine lv_iload_n hx hb dL_law_552 rfl (lv_at hl 0 rfl) ?_
  refine lv_iconst (v := 4) hx hb dL_law_553 (by decide) ?_
  refine lv_iadd hx hb dL_law_554 ?_
  refine lv_topi (fun x_4 ex_4 => ?_)
  obtain rfl : x_4 = 4 := ex_4.trans (by decide +kernel)
  refine va_sld hx hb hX hbl hbA hS (xin 4 6 rfl (by decide) (by decide)) dL_law_555 ?_
  refine W.eq (g2 := F0 m 556 ls [.int (xs 4), .int (xs 3), .int (xs 2), .int (xs 1), .ref (q 0)]) rfl ?_
  refine lv_aload_n hx hb dL_law_556 rfl (lv_at hl 3 rfl) ?_
  refine lv_iload_n hx hb dL_law_557 rfl (lv_at hl 0 rfl) ?_
  refine lv_iconst (v := 5) hx hb dL_law_558 (by decide) ?_
  refine lv_iadd hx hb dL_law_559 ?_
  refine lv_topi (fun x_5 ex_5 => ?_)
  obtain rfl : x_5 = 5 := ex_5.trans (by decide +kernel)
  refine va_sld hx hb hX hbl hbA hS (xin 5 6 rfl (by decide) (by decide)) dL_law_560 ?_
  refine W.eq (g2 := F0 m 561 ls [.int (xs 5), .int (xs 4), .int (xs 3), .int (xs 2), .int (xs 1), .ref (q 0)]) rfl ?_
  refine CWV (As := [.int (xs 1), .int (xs 2), .int (xs 3), .int (xs 4), .int (xs 5)]) (rest := []) (wc := [((q 0), .inr (11, [.ref (q 1), .ref (q 2), .ref (q 3), .ref (q 4), .ref (q 5), .ref (q 6), .ref (q 7), .ref (q 8), .ref (q 9), .ref (q 10), .ref (q 11), .int 0, .int 0, .int 0, .long 0, .long 1])), ((q 1), .inl (k 3, 4, .inr (.inr (.inr (.inr (fun i => some (q (120 + i)))))))), ((q 120), .inr (7, [.ref (q 124), .int 0, .int (-1)])), ((q 121), .inr (7, [.ref (q 125), .int 0, .int (-1)])), ((q 122), .inr (7, [.ref (q 126), .int 0, .int (-1)])), ((q 123), .inr (7, [.ref (q 127), .int 0, .int (-1)]))]) (wr := [((q 200), .inr (12, [.ref (q 201), .ref (q 202), .int 0, .long 0, .long 1, .ref (q 203), .ref (q 204), .ref (q 205), .ref (q 206), .ref (q 207), .int 0, .int 0, .int 0, .int 0, .int 0, .int 0, .int (-1), .int (-1), .int 0, .int 0, .int 0, .ref (q 208), .int 0, .int 0, .ref (q 209), .ref (q 210), .ref (q 211), .ref (q 212), .ref (q 213), .int 0, .int 0, .ref (q 214), .ref (q 215), .ref (q 216), .int 0, .int 0])), ((q 204), .inl (k 1, 4, .inl (fun _ => -1)))]) hx hb hml hown hts hKK hP hD hS hA (p_pour l D k q (xs 1) (xs 2) (xs 3) (xs 4) (xs 5)) ci_X11_pour qm_L_44 ⟨Nat.le_of_ble_eq_true rfl, Nat.le_of_ble_eq_true rfl⟩ ⟨Nat.le_of_ble_eq_true rfl, Nat.le_of_ble_eq_true rfl⟩ [0, 1, 2, 3, 4, 5] [66, 70] rfl rfl rfl rfl rfl (by decide) 0 rfl rfl rfl hl.1 rfl (Nat.le_of_ble_eq_true rfl) dL_law_561 (fun u_6 H locs hφ hP hD hS => ?_)
  have hP : va_P D vwCl [((q 200), .inr (12, [.ref (q 201), .ref (q 202), .int 0, .long 0, .long 1, .ref (q 203), .ref (q 204), .ref (q 205), .ref (q 206), .ref (q 207), .int 0, .int 0, .int 0, .int 0, .int 0, .int 0, .int (-1), .int (-1), .int 0, .int 0, .int 0, .ref (q 208), .int 0, .int 0, .ref (q 209), .ref (q 210), .ref (q 211), .ref (q 212), .ref (q 213), .int 0, .int 0, .ref (q 214), .ref (q 215), .ref (q 216), .int 0, .int 0])), ((q 204), .inl (k 1, 4, .inl (fun _ => -1)))] H := hP
  have hD : va_D A [((q 200), .inr (12, [.ref (q 201), .ref (q 202), .int 0, .long 0, .long 1, .ref (q 203), .ref (q 204), .ref (q 205), .ref (q 206), .ref (q 207), .int 0, .int 0, .int 0, .int 0, .int 0, .int 0, .int (-1), .int (-1), .int 0, .int 0, .int 0, .ref (q 208), .int 0, .int 0, .ref (q 209), .ref (q 210), .ref (q 211), .ref (q 212), .ref (q 213), .int 0, .int 0, .ref (q 214), .ref (q 215), .ref (q 216), .int 0, .int 0])), ((q 204), .inl (k 1, 4, .inl (fun _ => -1)))] := hD
  refine W.eq (g2 := F0 m 564 ls [.int 0]) rfl ?_
  refine lv_aload_n hx hb dL_law_564 rfl (lv_at hl 1 rfl) ?_
  refine lv_aload_n hx hb dL_law_565 rfl (lv_at hl 3 rfl) ?_
  refine lv_iload_n hx hb dL_law_566 rfl (lv_at hl 0 rfl) ?_
  refine lv_iconst (v := 1) hx hb dL_law_567 (by decide) ?_
  refine lv_iadd hx hb dL_law_568 ?_
  refine lv_topi (fun x_7 ex_7 => ?_)
  obtain rfl : x_7 = 1 := ex_7.trans (by decide +kernel)
  refine va_sld hx hb hX hbl hbA hS (xin 1 6 rfl (by decide) (by decide)) dL_law_569 ?_
  refine W.eq (g2 := F0 m 570 ls [.int (xs 1), .ref (q 200), .int 0]) rfl ?_
  refine lv_aload_n hx hb dL_law_570 rfl (lv_at hl 3 rfl) ?_
  refine lv_iload_n hx hb dL_law_571 rfl (lv_at hl 0 rfl) ?_
  refine lv_iconst (v := 2) hx hb dL_law_572 (by decide) ?_
  refine lv_iadd hx hb dL_law_573 ?_
  refine lv_topi (fun x_8 ex_8 => ?_)
  obtain rfl : x_8 = 2 := ex_8.trans (by decide +kernel)
  refine va_sld hx hb hX hbl hbA hS (xin 2 6 rfl (by decide) (by decide)) dL_law_574 ?_
  refine W.eq (g2 := F0 m 575 ls [.int (xs 2), .int (xs 1), .ref (q 200), .int 0]) rfl ?_
  refine lv_aload_n hx hb dL_law_575 rfl (lv_at hl 3 rfl) ?_
  refine lv_iload_n hx hb dL_law_576 rfl (lv_at hl 0 rfl) ?_
  refine lv_iconst (v := 3) hx hb dL_law_577 (by decide) ?_
  refine lv_iadd hx hb dL_law_578 ?_
  refine lv_topi (fun x_9 ex_9 => ?_)
  obtain rfl : x_9 = 3 := ex_9.trans (by decide +kernel)
  refine va_sld hx hb hX hbl hbA hS (xin 3 6 rfl (by decide) (by decide)) dL_law_579 ?_
  refine W.eq (g2 := F0 m 580 ls [.int (xs 3), .int (xs 2), .int (xs 1), .ref (q 200), .int 0]) rfl ?_
  refine lv_aload_n hx hb dL_law_580 rfl (lv_at hl 3 rfl) ?_
  refine lv_iload_n hx hb dL_law_581 rfl (lv_at hl 0 rfl) ?_
  refine lv_iconst (v := 4) hx hb dL_law_582 (by decide) ?_
  refine lv_iadd hx hb dL_law_583 ?_
  refine lv_topi (fun x_10 ex_10 => ?_)
  obtain rfl : x_10 = 4 := ex_10.trans (by decide +kernel)
  refine va_sld hx hb hX hbl hbA hS (xin 4 6 rfl (by decide) (by decide)) dL_law_584 ?_
  refine W.eq (g2 := F0 m 585 ls [.int (xs 4), .int (xs 3), .int (xs 2), .int (xs 1), .ref (q 200), .int 0]) rfl ?_
  refine lv_aload_n hx hb dL_law_585 rfl (lv_at hl 3 rfl) ?_
  refine lv_iload_n hx hb dL_law_586 rfl (lv_at hl 0 rfl) ?_
  refine lv_iconst (v := 5) hx hb dL_law_587 (by decide) ?_
  refine lv_iadd hx hb dL_law_588 ?_
  refine lv_topi (fun x_11 ex_11 => ?_)
  obtain rfl : x_11 = 5 := ex_11.trans (by decide +kernel)
  refine va_sld hx hb hX hbl hbA hS (xin 5 6 rfl (by decide) (by decide)) dL_law_589 ?_
  refine W.eq (g2 := F0 m 590 ls [.int (xs 5), .int (xs 4), .int (xs 3), .int (xs 2), .int (xs 1), .ref (q 200), .int 0]) rfl ?_
  refine CWV (As := [.int (xs 1), .int (xs 2), .int (xs 3), .int (xs 4), .int (xs 5)]) (rest := [.int 0]) (wc := [((q 200), .inr (12, [.ref (q 201), .ref (q 202), .int 0, .long 0, .long 1, .ref (q 203), .ref (q 204), .ref (q 205), .ref (q 206), .ref (q 207), .int 0, .int 0, .int 0, .int 0, .int 0, .int 0, .int (-1), .int (-1), .int 0, .int 0, .int 0, .ref (q 208), .int 0, .int 0, .ref (q 209), .ref (q 210), .ref (q 211), .ref (q 212), .ref (q 213), .int 0, .int 0, .ref (q 214), .ref (q 215), .ref (q 216), .int 0, .int 0])), ((q 204), .inl (k 1, 4, .inl (fun _ => -1)))]) (wr := []) hx hb hml hown hts hKK hP hD hS hA (r_pour l D k q (xs 1) (xs 2) (xs 3) (xs 4) (xs 5)) ci_X12_pour qm_L_48 ⟨Nat.le_of_ble_eq_true rfl, Nat.le_of_ble_eq_true rfl⟩ ⟨Nat.le_of_ble_eq_true rfl, Nat.le_of_ble_eq_true rfl⟩ [0, 1] [] rfl rfl rfl rfl rfl (by decide) 0 rfl rfl rfl hl.1 rfl (Nat.le_of_ble_eq_true rfl) dL_law_590 (fun u_12 H locs hφ hP hD hS => ?_)
  have hP : va_P D vwCl [] H := hP
  have hD : va_D A [] := hD
  refine W.eq (g2 := F0 m 593 ls [.int 0, .int 0]) rfl ?_
  refine lv_icmp_eq (tgt := 2849) hx hb dL_law_593 (by decide) (fun _ => ?_) (fun c => absurd (by decide) c)
  exact law_done hx hb hr hlocks hX hbl hbA hAf hS (by decide) (by decide) hl
set_option maxHeartbeats 4000000 in
set_option maxRecDepth 100000 in
theorem law_c7 {p : Program} {e : Env} {s : State} {m : MethodId} {below : List Frame} {meth : Method} {c : Code} (l : Launch) {b : Nat} {xs : Nat → Int32} {A : Nat → Prop} {D : va_G} {k : Nat → ClassId} {q : Nat → Nat} {H : Heap} {locs : List Loc} {ls : Array Slot} (C : LC p s m meth c b xs A D k q H locs ls) : W p l e room_1 s m #[Value.ref b] below meth c H locs 123 16705 (lw_Z below #[Value.ref b] s) (F0 m 598 ls []) := by
  obtain ⟨hx, hb, hr, hml, hown, hts, hKK, hX, hbl, hbA, hA, hAf, hlocks, hP, hD, hS, hl⟩ := C
  refine lv_aload_n hx hb dL_law_598 rfl (lv_at hl 2 rfl) ?_
  refine lv_aload_n hx hb dL_law_599 rfl (lv_at hl 3 rfl) ?_
  refine lv_iload_n hx hb dL_law_600 rfl (lv_at hl 0 rfl) ?_
  refine lv_iconst (v := 1) hx hb dL_law_601 (by decide) ?_
  refine lv_iadd hx hb dL_law_602 ?_
  refine lv_topi (fun x_1 ex_1 => ?_)
  obtain rfl : x_1 = 1 := ex_1.trans (by decide +kernel)
  refine va_sld hx hb hX hbl hbA hS (xin 1 6 rfl (by decide) (by decide)) dL_law_603 ?_
  refine W.eq (g2 := F0 m 604 ls [.int (xs 1), .ref (q 0)]) rfl ?_
  refine lv_aload_n hx hb dL_law_604 rfl (lv_at hl 3 rfl) ?_
  refine lv_iload_n hx hb dL_law_605 rfl (lv_at hl 0 rfl) ?_
  refine lv_iconst (v := 2) hx hb dL_law_606 (by decide) ?_
  refine lv_iadd hx hb dL_law_607 ?_
  refine lv_topi (fun x_2 ex_2 => ?_)
  obtain rfl : x_2 = 2 := ex_2.trans (by decide +kernel)
  refine va_sld hx hb hX hbl hbA hS (xin 2 6 rfl (by decide) (by decide)) dL_law_608 ?_
  refine W.eq (g2 := F0 m 609 ls [.int (xs 2), .int (xs 1), .ref (q 0)]) rfl ?_
  refine lv_aload_n hx hb dL_law_609 rfl (lv_at hl 3 rfl) ?_
  refine lv_iload_n hx hb dL_law_610 rfl (lv_at hl 0 rfl) ?_
  refine lv_iconst (v := 3) hx hb dL_law_611 (by decide) ?_
  refine lv_iadd hx hb dL_law_612 ?_
  refine lv_topi (fun x_3 ex_3 => ?_)
  obtain rfl : x_3 = 3 := ex_3.trans (by decide +kernel)
  refine va_sld hx hb hX hbl hbA hS (xin 3 6 rfl (by decide) (by decide)) dL_law_613 ?_
  refine W.eq (g2 := F0 m 614 ls [.int (xs 3), .int (xs 2), .int (xs 1), .ref (q 0)]) rfl ?_
  refine lv_aload_n hx hb dL_law_614 rfl (lv_at hl 3 rfl) ?_
  refine lv_iload_n hx hb dL_law_615 rfl (lv_at hl 0 rfl) ?_
  refine lv_iconst (v := 4) hx hb dL_law_616 (by decide) ?_
  refine lv_iadd hx hb dL_law_617 ?_
  refine lv_topi (fun x_4 ex_4 => ?_)
  obtain rfl : x_4 = 4 := ex_4.trans (by decide +kernel)
  refine va_sld hx hb hX hbl hbA hS (xin 4 6 rfl (by decide) (by decide)) dL_law_618 ?_
  refine W.eq (g2 := F0 m 619 ls [.int (xs 4), .int (xs 3), .int (xs 2), .int (xs 1), .ref (q 0)]) rfl ?_
  refine lv_aload_n hx hb dL_law_619 rfl (lv_at hl 3 rfl) ?_
  refine lv_iload_n hx hb dL_law_620 rfl (lv_at hl 0 rfl) ?_
  refine lv_iconst (v := 5) hx hb dL_law_621 (by decide) ?_
  refine lv_iadd hx hb dL_law_622 ?_
  refine lv_topi (fun x_5 ex_5 => ?_)
  obtain rfl : x_5 = 5 := ex_5.trans (by decide +kernel)
  refine va_sld hx hb hX hbl hbA hS (xin 5 6 rfl (by decide) (by decide)) dL_law_623 ?_
  refine W.eq (g2 := F0 m 624 ls [.int (xs 5), .int (xs 4), .int (xs 3), .int (xs 2), .int (xs 1), .ref (q 0)]) rfl ?_
  refine CWV (As := [.int (xs 1), .int (xs 2), .int (xs 3), .int (xs 4), .int (xs 5)]) (rest := []) (wc := [((q 0), .inr (11, [.ref (q 1), .ref (q 2), .ref (q 3), .ref (q 4), .ref (q 5), .ref (q 6), .ref (q 7), .ref (q 8), .ref (q 9), .ref (q 10), .ref (q 11), .int 0, .int 0, .int 0, .long 0, .long 1])), ((q 5), .inr (4, [.ref (q 130), .ref (q 131), .int 0, .int 0, .int 0, .int 0, .int 0, .int 0, .int 0, .long 0, .int (-1), .int (-1)])), ((q 130), .inl (k 0, 900, .inl (fun _ => 0)))]) (wr := [((q 200), .inr (12, [.ref (q 201), .ref (q 202), .int 0, .long 0, .long 1, .ref (q 203), .ref (q 204), .ref (q 205), .ref (q 206), .ref (q 207), .int 0, .int 0, .int 0, .int 0, .int 0, .int 0, .int (-1), .int (-1), .int 0, .int 0, .int 0, .ref (q 208), .int 0, .int 0, .ref (q 209), .ref (q 210), .ref (q 211), .ref (q 212), .ref (q 213), .int 0, .int 0, .ref (q 214), .ref (q 215), .ref (q 216), .int 0, .int 0])), ((q 206), .inl (k 0, 900, .inl (fun _ => 0)))]) hx hb hml hown hts hKK hP hD hS hA (p_feed l D k q (xs 1) (xs 2) (xs 3) (xs 4) (xs 5)) ci_X11_feed qm_L_49 ⟨Nat.le_of_ble_eq_true rfl, Nat.le_of_ble_eq_true rfl⟩ ⟨Nat.le_of_ble_eq_true rfl, Nat.le_of_ble_eq_true rfl⟩ [0, 59, 60] [66, 72] rfl rfl rfl rfl rfl (by decide) 0 rfl rfl rfl hl.1 rfl (Nat.le_of_ble_eq_true rfl) dL_law_624 (fun u_6 H locs hφ hP hD hS => ?_)
  have hP : va_P D vwCl [((q 200), .inr (12, [.ref (q 201), .ref (q 202), .int 0, .long 0, .long 1, .ref (q 203), .ref (q 204), .ref (q 205), .ref (q 206), .ref (q 207), .int 0, .int 0, .int 0, .int 0, .int 0, .int 0, .int (-1), .int (-1), .int 0, .int 0, .int 0, .ref (q 208), .int 0, .int 0, .ref (q 209), .ref (q 210), .ref (q 211), .ref (q 212), .ref (q 213), .int 0, .int 0, .ref (q 214), .ref (q 215), .ref (q 216), .int 0, .int 0])), ((q 206), .inl (k 0, 900, .inl (fun _ => 0)))] H := hP
  have hD : va_D A [((q 200), .inr (12, [.ref (q 201), .ref (q 202), .int 0, .long 0, .long 1, .ref (q 203), .ref (q 204), .ref (q 205), .ref (q 206), .ref (q 207), .int 0, .int 0, .int 0, .int 0, .int 0, .int 0, .int (-1), .int (-1), .int 0, .int 0, .int 0, .ref (q 208), .int 0, .int 0, .ref (q 209), .ref (q 210), .ref (q 211), .ref (q 212), .ref (q 213), .int 0, .int 0, .ref (q 214), .ref (q 215), .ref (q 216), .int 0, .int 0])), ((q 206), .inl (k 0, 900, .inl (fun _ => 0)))] := hD
  refine W.eq (g2 := F0 m 627 ls [.int 20]) rfl ?_
  refine lv_aload_n hx hb dL_law_627 rfl (lv_at hl 1 rfl) ?_
  refine lv_aload_n hx hb dL_law_628 rfl (lv_at hl 3 rfl) ?_
  refine lv_iload_n hx hb dL_law_629 rfl (lv_at hl 0 rfl) ?_
  refine lv_iconst (v := 1) hx hb dL_law_630 (by decide) ?_
  refine lv_iadd hx hb dL_law_631 ?_
  refine lv_topi (fun x_7 ex_7 => ?_)
  obtain rfl : x_7 = 1 := ex_7.trans (by decide +kernel)
  refine va_sld hx hb hX hbl hbA hS (xin 1 6 rfl (by decide) (by decide)) dL_law_632 ?_
  refine W.eq (g2 := F0 m 633 ls [.int (xs 1), .ref (q 200), .int 20]) rfl ?_
  refine lv_aload_n hx hb dL_law_633 rfl (lv_at hl 3 rfl) ?_
  refine lv_iload_n hx hb dL_law_634 rfl (lv_at hl 0 rfl) ?_
  refine lv_iconst (v := 2) hx hb dL_law_635 (by decide) ?_
  refine lv_iadd hx hb dL_law_636 ?_
  refine lv_topi (fun x_8 ex_8 => ?_)
  obtain rfl : x_8 = 2 := ex_8.trans (by decide +kernel)
  refine va_sld hx hb hX hbl hbA hS (xin 2 6 rfl (by decide) (by decide)) dL_law_637 ?_
  refine W.eq (g2 := F0 m 638 ls [.int (xs 2), .int (xs 1), .ref (q 200), .int 20]) rfl ?_
  refine lv_aload_n hx hb dL_law_638 rfl (lv_at hl 3 rfl) ?_
  refine lv_iload_n hx hb dL_law_639 rfl (lv_at hl 0 rfl) ?_
  refine lv_iconst (v := 3) hx hb dL_law_640 (by decide) ?_
  refine lv_iadd hx hb dL_law_641 ?_
  refine lv_topi (fun x_9 ex_9 => ?_)
  obtain rfl : x_9 = 3 := ex_9.trans (by decide +kernel)
  refine va_sld hx hb hX hbl hbA hS (xin 3 6 rfl (by decide) (by decide)) dL_law_642 ?_
  refine W.eq (g2 := F0 m 643 ls [.int (xs 3), .int (xs 2), .int (xs 1), .ref (q 200), .int 20]) rfl ?_
  refine lv_aload_n hx hb dL_law_643 rfl (lv_at hl 3 rfl) ?_
  refine lv_iload_n hx hb dL_law_644 rfl (lv_at hl 0 rfl) ?_
  refine lv_iconst (v := 4) hx hb dL_law_645 (by decide) ?_
  refine lv_iadd hx hb dL_law_646 ?_
  refine lv_topi (fun x_10 ex_10 => ?_)
  obtain rfl : x_10 = 4 := ex_10.trans (by decide +kernel)
  refine va_sld hx hb hX hbl hbA hS (xin 4 6 rfl (by decide) (by decide)) dL_law_647 ?_
  refine W.eq (g2 := F0 m 648 ls [.int (xs 4), .int (xs 3), .int (xs 2), .int (xs 1), .ref (q 200), .int 20]) rfl ?_
  refine lv_aload_n hx hb dL_law_648 rfl (lv_at hl 3 rfl) ?_
  refine lv_iload_n hx hb dL_law_649 rfl (lv_at hl 0 rfl) ?_
  refine lv_iconst (v := 5) hx hb dL_law_650 (by decide) ?_
  refine lv_iadd hx hb dL_law_651 ?_
  refine lv_topi (fun x_11 ex_11 => ?_)
  obtain rfl : x_11 = 5 := ex_11.trans (by decide +kernel)
  refine va_sld hx hb hX hbl hbA hS (xin 5 6 rfl (by decide) (by decide)) dL_law_652 ?_
  refine W.eq (g2 := F0 m 653 ls [.int (xs 5), .int (xs 4), .int (xs 3), .int (xs 2), .int (xs 1), .ref (q 200), .int 20]) rfl ?_
  refine CWV (As := [.int (xs 1), .int (xs 2), .int (xs 3), .int (xs 4), .int (xs 5)]) (rest := [.int 20]) (wc := [((q 200), .inr (12, [.ref (q 201), .ref (q 202), .int 0, .long 0, .long 1, .ref (q 203), .ref (q 204), .ref (q 205), .ref (q 206), .ref (q 207), .int 0, .int 0, .int 0, .int 0, .int 0, .int 0, .int (-1), .int (-1), .int 0, .int 0, .int 0, .ref (q 208), .int 0, .int 0, .ref (q 209), .ref (q 210), .ref (q 211), .ref (q 212), .ref (q 213), .int 0, .int 0, .ref (q 214), .ref (q 215), .ref (q 216), .int 0, .int 0])), ((q 206), .inl (k 0, 900, .inl (fun _ => 0)))]) (wr := []) hx hb hml hown hts hKK hP hD hS hA (r_feed l D k q (xs 1) (xs 2) (xs 3) (xs 4) (xs 5)) ci_X12_feed qm_L_53 ⟨Nat.le_of_ble_eq_true rfl, Nat.le_of_ble_eq_true rfl⟩ ⟨Nat.le_of_ble_eq_true rfl, Nat.le_of_ble_eq_true rfl⟩ [0, 1] [] rfl rfl rfl rfl rfl (by decide) 0 rfl rfl rfl hl.1 rfl (Nat.le_of_ble_eq_true rfl) dL_law_653 (fun u_12 H locs hφ hP hD hS => ?_)
  have hP : va_P D vwCl [] H := hP
  have hD : va_D A [] := hD
  refine W.eq (g2 := F0 m 656 ls [.int 20, .int 20]) rfl ?_
  refine lv_icmp_eq (tgt := 2849) hx hb dL_law_656 (by decide) (fun _ => ?_) (fun c => absurd (by decide) c)
  exact law_done hx hb hr hlocks hX hbl hbA hAf hS (by decide) (by decide) hl
set_option maxHeartbeats 4000000 in
set_option maxRecDepth 100000 in
theorem law_c8 {p : Program} {e : Env} {s : State} {m : MethodId} {below : List Frame} {meth : Method} {c : Code} (l : Launch) {b : Nat} {xs : Nat → Int32} {A : Nat → Prop} {D : va_G} {k : Nat → ClassId} {q : Nat → Nat} {H : Heap} {locs : List Loc} {ls : Array Slot} (C : LC p s m meth c b xs A D k q H locs ls) : W p l e room_1 s m #[Value.ref b] below meth c H locs 123 16705 (lw_Z below #[Value.ref b] s) (F0 m 661 ls []) := by
  obtain ⟨hx, hb, hr, hml, hown, hts, hKK, hX, hbl, hbA, hA, hAf, hlocks, hP, hD, hS, hl⟩ := C
  refine lv_aload_n hx hb dL_law_661 rfl (lv_at hl 2 rfl) ?_
  refine lv_aload_n hx hb dL_law_662 rfl (lv_at hl 3 rfl) ?_
  refine lv_iload_n hx hb dL_law_663 rfl (lv_at hl 0 rfl) ?_
  refine lv_iconst (v := 1) hx hb dL_law_664 (by decide) ?_
  refine lv_iadd hx hb dL_law_665 ?_
  refine lv_topi (fun x_1 ex_1 => ?_)
  obtain rfl : x_1 = 1 := ex_1.trans (by decide +kernel)
  refine va_sld hx hb hX hbl hbA hS (xin 1 6 rfl (by decide) (by decide)) dL_law_666 ?_
  refine W.eq (g2 := F0 m 667 ls [.int (xs 1), .ref (q 0)]) rfl ?_
  refine CWV (As := [.int (xs 1)]) (rest := []) (wc := [((q 0), .inr (11, [.ref (q 1), .ref (q 2), .ref (q 3), .ref (q 4), .ref (q 5), .ref (q 6), .ref (q 7), .ref (q 8), .ref (q 9), .ref (q 10), .ref (q 11), .int 0, .int 0, .int 0, .long 0, .long 1])), ((q 2), .inr (8, [.ref (q 20), .ref (q 21), .ref (q 22)])), ((q 3), .inr (8, [.ref (q 40), .ref (q 41), .ref (q 42)])), ((q 20), .inr (5, [.ref (q 23), .ref (q 24), .ref (q 25), .int 0, .int 0, .int 0, .int 0])), ((q 40), .inr (5, [.ref (q 43), .ref (q 44), .ref (q 45), .int 0, .int 0, .int 0, .int 0])), ((q 21), .inr (0, [.ref (q 26), .ref (q 27), .ref (q 28), .ref (q 29), .int 0, .int 0])), ((q 22), .inr (9, [.ref (q 30), .ref (q 31), .ref (q 32), .ref (q 33), .ref (q 34), .int 0, .int 0, .int 0])), ((q 5), .inr (4, [.ref (q 130), .ref (q 131), .int 0, .int 0, .int 0, .int 0, .int 0, .int 0, .int 0, .long 0, .int (-1), .int (-1)])), ((q 6), .inr (6, [.ref (q 5), .null, .int 0])), ((q 8), .inr (3, [.ref (q 20), .long 0, .null, .null])), ((q 23), .inl (k 2, 6, .inr (.inl (fun _ => 0)))), ((q 24), .inl (k 1, 36, .inl (fun _ => 0))), ((q 25), .inl (k 1, 32, .inl (fun _ => 0))), ((q 43), .inl (k 2, 6, .inr (.inl (fun _ => 0)))), ((q 44), .inl (k 1, 36, .inl (fun _ => 0))), ((q 45), .inl (k 1, 32, .inl (fun _ => 0))), ((q 26), .inl (k 1, 401, .inl (fun _ => 0)))]) (wr := [((q 200), .inr (12, [.ref (q 201), .ref (q 202), .int 0, .long 0, .long 1, .ref (q 203), .ref (q 204), .ref (q 205), .ref (q 206), .ref (q 207), .int 0, .int 0, .int 0, .int 0, .int 0, .int 0, .int (-1), .int (-1), .int 0, .int 0, .int 0, .ref (q 208), .int 0, .int 0, .ref (q 209), .ref (q 210), .ref (q 211), .ref (q 212), .ref (q 213), .int 0, .int 0, .ref (q 214), .ref (q 215), .ref (q 216), .int 0, .int 0])), ((q 201), .inl (k 1, 5340, .inl at0)), ((q 202), .inl (k 2, 36, .inr (.inl (fun _ => 0))))]) hx hb hml hown hts hKK hP hD hS hA (p_sky l D k q (xs 1)) ci_X11_sky qm_L_54 ⟨Nat.le_of_ble_eq_true rfl, Nat.le_of_ble_eq_true rfl⟩ ⟨Nat.le_of_ble_eq_true rfl, Nat.le_of_ble_eq_true rfl⟩ [0, 11, 27, 12, 28, 16, 21, 59, 61, 63, 13, 14, 15, 29, 30, 31, 17] [66, 67, 68] rfl rfl rfl rfl rfl (by decide) 0 rfl rfl rfl hl.1 rfl (Nat.le_of_ble_eq_true rfl) dL_law_667 (fun u_2 H locs hφ hP hD hS => ?_)
  have hP : va_P D vwCl [((q 200), .inr (12, [.ref (q 201), .ref (q 202), .int 0, .long 0, .long 1, .ref (q 203), .ref (q 204), .ref (q 205), .ref (q 206), .ref (q 207), .int 0, .int 0, .int 0, .int 0, .int 0, .int 0, .int (-1), .int (-1), .int 0, .int 0, .int 0, .ref (q 208), .int 0, .int 0, .ref (q 209), .ref (q 210), .ref (q 211), .ref (q 212), .ref (q 213), .int 0, .int 0, .ref (q 214), .ref (q 215), .ref (q 216), .int 0, .int 0])), ((q 201), .inl (k 1, 5340, .inl at0)), ((q 202), .inl (k 2, 36, .inr (.inl (fun _ => 0))))] H := hP
  have hD : va_D A [((q 200), .inr (12, [.ref (q 201), .ref (q 202), .int 0, .long 0, .long 1, .ref (q 203), .ref (q 204), .ref (q 205), .ref (q 206), .ref (q 207), .int 0, .int 0, .int 0, .int 0, .int 0, .int 0, .int (-1), .int (-1), .int 0, .int 0, .int 0, .ref (q 208), .int 0, .int 0, .ref (q 209), .ref (q 210), .ref (q 211), .ref (q 212), .ref (q 213), .int 0, .int 0, .ref (q 214), .ref (q 215), .ref (q 216), .int 0, .int 0])), ((q 201), .inl (k 1, 5340, .inl at0)), ((q 202), .inl (k 2, 36, .inr (.inl (fun _ => 0))))] := hD
  refine W.eq (g2 := F0 m 670 ls [.int (inA (xs 1) 0)]) rfl ?_
  refine lv_aload_n hx hb dL_law_670 rfl (lv_at hl 1 rfl) ?_
  refine lv_aload_n hx hb dL_law_671 rfl (lv_at hl 3 rfl) ?_
  refine lv_iload_n hx hb dL_law_672 rfl (lv_at hl 0 rfl) ?_
  refine lv_iconst (v := 1) hx hb dL_law_673 (by decide) ?_
  refine lv_iadd hx hb dL_law_674 ?_
  refine lv_topi (fun x_3 ex_3 => ?_)
  obtain rfl : x_3 = 1 := ex_3.trans (by decide +kernel)
  refine va_sld hx hb hX hbl hbA hS (xin 1 6 rfl (by decide) (by decide)) dL_law_675 ?_
  refine W.eq (g2 := F0 m 676 ls [.int (xs 1), .ref (q 200), .int (inA (xs 1) 0)]) rfl ?_
  refine CWV (As := [.int (xs 1)]) (rest := [.int (inA (xs 1) 0)]) (wc := [((q 200), .inr (12, [.ref (q 201), .ref (q 202), .int 0, .long 0, .long 1, .ref (q 203), .ref (q 204), .ref (q 205), .ref (q 206), .ref (q 207), .int 0, .int 0, .int 0, .int 0, .int 0, .int 0, .int (-1), .int (-1), .int 0, .int 0, .int 0, .ref (q 208), .int 0, .int 0, .ref (q 209), .ref (q 210), .ref (q 211), .ref (q 212), .ref (q 213), .int 0, .int 0, .ref (q 214), .ref (q 215), .ref (q 216), .int 0, .int 0])), ((q 201), .inl (k 1, 5340, .inl at0)), ((q 202), .inl (k 2, 36, .inr (.inl (fun _ => 0))))]) (wr := []) hx hb hml hown hts hKK hP hD hS hA (r_sky l D k q (xs 1)) ci_X12_sky qm_L_58 ⟨Nat.le_of_ble_eq_true rfl, Nat.le_of_ble_eq_true rfl⟩ ⟨Nat.le_of_ble_eq_true rfl, Nat.le_of_ble_eq_true rfl⟩ [0, 1, 2] [] rfl rfl rfl rfl rfl (by decide) 0 rfl rfl rfl hl.1 rfl (Nat.le_of_ble_eq_true rfl) dL_law_676 (fun u_4 H locs hφ hP hD hS => ?_)
  have hP : va_P D vwCl [] H := hP
  have hD : va_D A [] := hD
  refine W.eq (g2 := F0 m 679 ls [.int (inA (xs 1) 0), .int (inA (xs 1) 0)]) rfl ?_
  refine lv_icmp_eq (tgt := 2849) hx hb dL_law_679 (by decide) (fun _ => ?_) (fun c => absurd rfl c)
  exact law_done hx hb hr hlocks hX hbl hbA hAf hS (by decide) (by decide) hl
set_option maxHeartbeats 4000000 in
set_option maxRecDepth 100000 in
theorem law_c9 {p : Program} {e : Env} {s : State} {m : MethodId} {below : List Frame} {meth : Method} {c : Code} (l : Launch) {b : Nat} {xs : Nat → Int32} {A : Nat → Prop} {D : va_G} {k : Nat → ClassId} {q : Nat → Nat} {H : Heap} {locs : List Loc} {ls : Array Slot} (C : LC p s m meth c b xs A D k q H locs ls) : W p l e room_1 s m #[Value.ref b] below meth c H locs 123 16705 (lw_Z below #[Value.ref b] s) (F0 m 684 ls []) := by
  obtain ⟨hx, hb, hr, hml, hown, hts, hKK, hX, hbl, hbA, hA, hAf, hlocks, hP, hD, hS, hl⟩ := C
  refine lv_aload_n hx hb dL_law_684 rfl (lv_at hl 2 rfl) ?_
  refine lv_aload_n hx hb dL_law_685 rfl (lv_at hl 3 rfl) ?_
  refine lv_iload_n hx hb dL_law_686 rfl (lv_at hl 0 rfl) ?_
  refine lv_iconst (v := 1) hx hb dL_law_687 (by decide) ?_
  refine lv_iadd hx hb dL_law_688 ?_
  refine lv_topi (fun x_1 ex_1 => ?_)
  obtain rfl : x_1 = 1 := ex_1.trans (by decide +kernel)
  refine va_sld hx hb hX hbl hbA hS (xin 1 6 rfl (by decide) (by decide)) dL_law_689 ?_
  refine W.eq (g2 := F0 m 690 ls [.int (xs 1), .ref (q 0)]) rfl ?_
  refine CWV (As := [.int (xs 1)]) (rest := []) (wc := [((q 0), .inr (11, [.ref (q 1), .ref (q 2), .ref (q 3), .ref (q 4), .ref (q 5), .ref (q 6), .ref (q 7), .ref (q 8), .ref (q 9), .ref (q 10), .ref (q 11), .int 0, .int 0, .int 0, .long 0, .long 1])), ((q 2), .inr (8, [.ref (q 20), .ref (q 21), .ref (q 22)])), ((q 3), .inr (8, [.ref (q 40), .ref (q 41), .ref (q 42)])), ((q 20), .inr (5, [.ref (q 23), .ref (q 24), .ref (q 25), .int 0, .int 0, .int 0, .int 0])), ((q 22), .inr (9, [.ref (q 30), .ref (q 31), .ref (q 32), .ref (q 33), .ref (q 34), .int 0, .int 0, .int 0])), ((q 42), .inr (9, [.ref (q 50), .ref (q 51), .ref (q 52), .ref (q 53), .ref (q 54), .int 0, .int 0, .int 0])), ((q 5), .inr (4, [.ref (q 130), .ref (q 131), .int 0, .int 0, .int 0, .int 0, .int 0, .int 0, .int 0, .long 0, .int (-1), .int (-1)])), ((q 7), .inr (10, [.ref (q 5), .ref (q 132), .int 0, .null, .null])), ((q 30), .inl (k 1, 60, .inl (fun _ => 0))), ((q 31), .inl (k 1, 60, .inl (fun _ => 0))), ((q 32), .inl (k 1, 60, .inl (fun _ => 0))), ((q 33), .inl (k 1, 60, .inl (fun _ => 0))), ((q 34), .inl (k 1, 60, .inl (fun _ => 0))), ((q 50), .inl (k 1, 60, .inl (fun _ => 0))), ((q 51), .inl (k 1, 60, .inl (fun _ => 0))), ((q 52), .inl (k 1, 60, .inl (fun _ => 0))), ((q 53), .inl (k 1, 60, .inl (fun _ => 0))), ((q 54), .inl (k 1, 60, .inl (fun _ => 0)))]) (wr := [((q 200), .inr (12, [.ref (q 201), .ref (q 202), .int 0, .long 0, .long 1, .ref (q 203), .ref (q 204), .ref (q 205), .ref (q 206), .ref (q 207), .int 0, .int 0, .int 0, .int 0, .int 0, .int 0, .int (-1), .int (-1), .int 0, .int 0, .int 0, .ref (q 208), .int 0, .int 0, .ref (q 209), .ref (q 210), .ref (q 211), .ref (q 212), .ref (q 213), .int 0, .int 0, .ref (q 214), .ref (q 215), .ref (q 216), .int 0, .int 0])), ((q 201), .inl (k 1, 5340, .inl at0))]) hx hb hml hown hts hKK hP hD hS hA (p_years l D k q (xs 1)) ci_X11_years qm_L_59 ⟨Nat.le_of_ble_eq_true rfl, Nat.le_of_ble_eq_true rfl⟩ ⟨Nat.le_of_ble_eq_true rfl, Nat.le_of_ble_eq_true rfl⟩ [0, 11, 27, 12, 21, 37, 59, 62, 22, 23, 24, 25, 26, 38, 39, 40, 41, 42] [66, 67] rfl rfl rfl rfl rfl (by decide) 0 rfl rfl rfl hl.1 rfl (Nat.le_of_ble_eq_true rfl) dL_law_690 (fun u_2 H locs hφ hP hD hS => ?_)
  have hP : va_P D vwCl [((q 200), .inr (12, [.ref (q 201), .ref (q 202), .int 0, .long 0, .long 1, .ref (q 203), .ref (q 204), .ref (q 205), .ref (q 206), .ref (q 207), .int 0, .int 0, .int 0, .int 0, .int 0, .int 0, .int (-1), .int (-1), .int 0, .int 0, .int 0, .ref (q 208), .int 0, .int 0, .ref (q 209), .ref (q 210), .ref (q 211), .ref (q 212), .ref (q 213), .int 0, .int 0, .ref (q 214), .ref (q 215), .ref (q 216), .int 0, .int 0])), ((q 201), .inl (k 1, 5340, .inl at0))] H := hP
  have hD : va_D A [((q 200), .inr (12, [.ref (q 201), .ref (q 202), .int 0, .long 0, .long 1, .ref (q 203), .ref (q 204), .ref (q 205), .ref (q 206), .ref (q 207), .int 0, .int 0, .int 0, .int 0, .int 0, .int 0, .int (-1), .int (-1), .int 0, .int 0, .int 0, .ref (q 208), .int 0, .int 0, .ref (q 209), .ref (q 210), .ref (q 211), .ref (q 212), .ref (q 213), .int 0, .int 0, .ref (q 214), .ref (q 215), .ref (q 216), .int 0, .int 0])), ((q 201), .inl (k 1, 5340, .inl at0))] := hD
  refine W.eq (g2 := F0 m 693 ls [.int (inA (xs 1) 0)]) rfl ?_
  refine lv_aload_n hx hb dL_law_693 rfl (lv_at hl 1 rfl) ?_
  refine lv_aload_n hx hb dL_law_694 rfl (lv_at hl 3 rfl) ?_
  refine lv_iload_n hx hb dL_law_695 rfl (lv_at hl 0 rfl) ?_
  refine lv_iconst (v := 1) hx hb dL_law_696 (by decide) ?_
  refine lv_iadd hx hb dL_law_697 ?_
  refine lv_topi (fun x_3 ex_3 => ?_)
  obtain rfl : x_3 = 1 := ex_3.trans (by decide +kernel)
  refine va_sld hx hb hX hbl hbA hS (xin 1 6 rfl (by decide) (by decide)) dL_law_698 ?_
  refine W.eq (g2 := F0 m 699 ls [.int (xs 1), .ref (q 200), .int (inA (xs 1) 0)]) rfl ?_
  refine CWV (As := [.int (xs 1)]) (rest := [.int (inA (xs 1) 0)]) (wc := [((q 200), .inr (12, [.ref (q 201), .ref (q 202), .int 0, .long 0, .long 1, .ref (q 203), .ref (q 204), .ref (q 205), .ref (q 206), .ref (q 207), .int 0, .int 0, .int 0, .int 0, .int 0, .int 0, .int (-1), .int (-1), .int 0, .int 0, .int 0, .ref (q 208), .int 0, .int 0, .ref (q 209), .ref (q 210), .ref (q 211), .ref (q 212), .ref (q 213), .int 0, .int 0, .ref (q 214), .ref (q 215), .ref (q 216), .int 0, .int 0])), ((q 201), .inl (k 1, 5340, .inl at0))]) (wr := []) hx hb hml hown hts hKK hP hD hS hA (r_years l D k q (xs 1)) ci_X12_years qm_L_62 ⟨Nat.le_of_ble_eq_true rfl, Nat.le_of_ble_eq_true rfl⟩ ⟨Nat.le_of_ble_eq_true rfl, Nat.le_of_ble_eq_true rfl⟩ [0, 1] [] rfl rfl rfl rfl rfl (by decide) 0 rfl rfl rfl hl.1 rfl (Nat.le_of_ble_eq_true rfl) dL_law_699 (fun u_4 H locs hφ hP hD hS => ?_)
  have hP : va_P D vwCl [] H := hP
  have hD : va_D A [] := hD
  refine W.eq (g2 := F0 m 702 ls [.int (inA (xs 1) 0), .int (inA (xs 1) 0)]) rfl ?_
  refine lv_icmp_eq (tgt := 2849) hx hb dL_law_702 (by decide) (fun _ => ?_) (fun c => absurd rfl c)
  exact law_done hx hb hr hlocks hX hbl hbA hAf hS (by decide) (by decide) hl
set_option maxHeartbeats 4000000 in
set_option maxRecDepth 100000 in
theorem law_c10 {p : Program} {e : Env} {s : State} {m : MethodId} {below : List Frame} {meth : Method} {c : Code} (l : Launch) {b : Nat} {xs : Nat → Int32} {A : Nat → Prop} {D : va_G} {k : Nat → ClassId} {q : Nat → Nat} {H : Heap} {locs : List Loc} {ls : Array Slot} (C : LC p s m meth c b xs A D k q H locs ls) : W p l e room_1 s m #[Value.ref b] below meth c H locs 123 16705 (lw_Z below #[Value.ref b] s) (F0 m 707 ls []) := by
  obtain ⟨hx, hb, hr, hml, hown, hts, hKK, hX, hbl, hbA, hA, hAf, hlocks, hP, hD, hS, hl⟩ := C
  refine lv_aload_n hx hb dL_law_707 rfl (lv_at hl 2 rfl) ?_
  refine lv_aload_n hx hb dL_law_708 rfl (lv_at hl 3 rfl) ?_
  refine lv_iload_n hx hb dL_law_709 rfl (lv_at hl 0 rfl) ?_
  refine lv_iconst (v := 1) hx hb dL_law_710 (by decide) ?_
  refine lv_iadd hx hb dL_law_711 ?_
  refine lv_topi (fun x_1 ex_1 => ?_)
  obtain rfl : x_1 = 1 := ex_1.trans (by decide +kernel)
  refine va_sld hx hb hX hbl hbA hS (xin 1 6 rfl (by decide) (by decide)) dL_law_712 ?_
  refine W.eq (g2 := F0 m 713 ls [.int (xs 1), .ref (q 0)]) rfl ?_
  refine CWV (As := [.int (xs 1)]) (rest := []) (wc := [((q 0), .inr (11, [.ref (q 1), .ref (q 2), .ref (q 3), .ref (q 4), .ref (q 5), .ref (q 6), .ref (q 7), .ref (q 8), .ref (q 9), .ref (q 10), .ref (q 11), .int 0, .int 0, .int 0, .long 0, .long 1])), ((q 5), .inr (4, [.ref (q 130), .ref (q 131), .int 0, .int 0, .int 0, .int 0, .int 0, .int 0, .int 0, .long 0, .int (-1), .int (-1)]))]) (wr := [((q 200), .inr (12, [.ref (q 201), .ref (q 202), .int 0, .long 0, .long 1, .ref (q 203), .ref (q 204), .ref (q 205), .ref (q 206), .ref (q 207), .int 0, .int 0, .int 0, .int 0, .int 0, .int 0, .int (-1), .int (-1), .int 0, .int 0, .int 0, .ref (q 208), .int 0, .int 0, .ref (q 209), .ref (q 210), .ref (q 211), .ref (q 212), .ref (q 213), .int 0, .int 0, .ref (q 214), .ref (q 215), .ref (q 216), .int 0, .int 0])), ((q 201), .inl (k 1, 5340, .inl at0))]) hx hb hml hown hts hKK hP hD hS hA (p_fault l D k q (xs 1)) ci_X11_fault qm_L_63 ⟨Nat.le_of_ble_eq_true rfl, Nat.le_of_ble_eq_true rfl⟩ ⟨Nat.le_of_ble_eq_true rfl, Nat.le_of_ble_eq_true rfl⟩ [0, 59] [66, 67] rfl rfl rfl rfl rfl (by decide) 0 rfl rfl rfl hl.1 rfl (Nat.le_of_ble_eq_true rfl) dL_law_713 (fun u_2 H locs hφ hP hD hS => ?_)
  have hP : va_P D vwCl [((q 200), .inr (12, [.ref (q 201), .ref (q 202), .int 0, .long 0, .long 1, .ref (q 203), .ref (q 204), .ref (q 205), .ref (q 206), .ref (q 207), .int 0, .int 0, .int 0, .int 0, .int 0, .int 0, .int (-1), .int (-1), .int 0, .int 0, .int 0, .ref (q 208), .int 0, .int 0, .ref (q 209), .ref (q 210), .ref (q 211), .ref (q 212), .ref (q 213), .int 0, .int 0, .ref (q 214), .ref (q 215), .ref (q 216), .int 0, .int 0])), ((q 201), .inl (k 1, 5340, .inl at0))] H := hP
  have hD : va_D A [((q 200), .inr (12, [.ref (q 201), .ref (q 202), .int 0, .long 0, .long 1, .ref (q 203), .ref (q 204), .ref (q 205), .ref (q 206), .ref (q 207), .int 0, .int 0, .int 0, .int 0, .int 0, .int 0, .int (-1), .int (-1), .int 0, .int 0, .int 0, .ref (q 208), .int 0, .int 0, .ref (q 209), .ref (q 210), .ref (q 211), .ref (q 212), .ref (q 213), .int 0, .int 0, .ref (q 214), .ref (q 215), .ref (q 216), .int 0, .int 0])), ((q 201), .inl (k 1, 5340, .inl at0))] := hD
  refine W.eq (g2 := F0 m 716 ls [.int (-1)]) rfl ?_
  refine lv_aload_n hx hb dL_law_716 rfl (lv_at hl 1 rfl) ?_
  refine lv_aload_n hx hb dL_law_717 rfl (lv_at hl 3 rfl) ?_
  refine lv_iload_n hx hb dL_law_718 rfl (lv_at hl 0 rfl) ?_
  refine lv_iconst (v := 1) hx hb dL_law_719 (by decide) ?_
  refine lv_iadd hx hb dL_law_720 ?_
  refine lv_topi (fun x_3 ex_3 => ?_)
  obtain rfl : x_3 = 1 := ex_3.trans (by decide +kernel)
  refine va_sld hx hb hX hbl hbA hS (xin 1 6 rfl (by decide) (by decide)) dL_law_721 ?_
  refine W.eq (g2 := F0 m 722 ls [.int (xs 1), .ref (q 200), .int (-1)]) rfl ?_
  refine CWV (As := [.int (xs 1)]) (rest := [.int (-1)]) (wc := [((q 200), .inr (12, [.ref (q 201), .ref (q 202), .int 0, .long 0, .long 1, .ref (q 203), .ref (q 204), .ref (q 205), .ref (q 206), .ref (q 207), .int 0, .int 0, .int 0, .int 0, .int 0, .int 0, .int (-1), .int (-1), .int 0, .int 0, .int 0, .ref (q 208), .int 0, .int 0, .ref (q 209), .ref (q 210), .ref (q 211), .ref (q 212), .ref (q 213), .int 0, .int 0, .ref (q 214), .ref (q 215), .ref (q 216), .int 0, .int 0])), ((q 201), .inl (k 1, 5340, .inl at0))]) (wr := []) hx hb hml hown hts hKK hP hD hS hA (r_fault l D k q (xs 1)) ci_X12_fault qm_L_66 ⟨Nat.le_of_ble_eq_true rfl, Nat.le_of_ble_eq_true rfl⟩ ⟨Nat.le_of_ble_eq_true rfl, Nat.le_of_ble_eq_true rfl⟩ [0, 1] [] rfl rfl rfl rfl rfl (by decide) 0 rfl rfl rfl hl.1 rfl (Nat.le_of_ble_eq_true rfl) dL_law_722 (fun u_4 H locs hφ hP hD hS => ?_)
  have hP : va_P D vwCl [] H := hP
  have hD : va_D A [] := hD
  refine W.eq (g2 := F0 m 725 ls [.int (-1), .int (-1)]) rfl ?_
  refine lv_icmp_eq (tgt := 2849) hx hb dL_law_725 (by decide) (fun _ => ?_) (fun c => absurd (by decide) c)
  exact law_done hx hb hr hlocks hX hbl hbA hAf hS (by decide) (by decide) hl
set_option maxHeartbeats 4000000 in
set_option maxRecDepth 100000 in
theorem law_c11 {p : Program} {e : Env} {s : State} {m : MethodId} {below : List Frame} {meth : Method} {c : Code} (l : Launch) {b : Nat} {xs : Nat → Int32} {A : Nat → Prop} {D : va_G} {k : Nat → ClassId} {q : Nat → Nat} {H : Heap} {locs : List Loc} {ls : Array Slot} (C : LC p s m meth c b xs A D k q H locs ls) : W p l e room_1 s m #[Value.ref b] below meth c H locs 123 16705 (lw_Z below #[Value.ref b] s) (F0 m 730 ls []) := by
  obtain ⟨hx, hb, hr, hml, hown, hts, hKK, hX, hbl, hbA, hA, hAf, hlocks, hP, hD, hS, hl⟩ := C
  refine lv_aload_n hx hb dL_law_730 rfl (lv_at hl 2 rfl) ?_
  refine lv_aload_n hx hb dL_law_731 rfl (lv_at hl 3 rfl) ?_
  refine lv_iload_n hx hb dL_law_732 rfl (lv_at hl 0 rfl) ?_
  refine lv_iconst (v := 1) hx hb dL_law_733 (by decide) ?_
  refine lv_iadd hx hb dL_law_734 ?_
  refine lv_topi (fun x_1 ex_1 => ?_)
  obtain rfl : x_1 = 1 := ex_1.trans (by decide +kernel)
  refine va_sld hx hb hX hbl hbA hS (xin 1 6 rfl (by decide) (by decide)) dL_law_735 ?_
  refine W.eq (g2 := F0 m 736 ls [.int (xs 1), .ref (q 0)]) rfl ?_
  refine CWV (As := [.int (xs 1)]) (rest := []) (wc := [((q 0), .inr (11, [.ref (q 1), .ref (q 2), .ref (q 3), .ref (q 4), .ref (q 5), .ref (q 6), .ref (q 7), .ref (q 8), .ref (q 9), .ref (q 10), .ref (q 11), .int 0, .int 0, .int 0, .long 0, .long 1])), ((q 2), .inr (8, [.ref (q 20), .ref (q 21), .ref (q 22)])), ((q 20), .inr (5, [.ref (q 23), .ref (q 24), .ref (q 25), .int 0, .int 0, .int 0, .int 0])), ((q 21), .inr (0, [.ref (q 26), .ref (q 27), .ref (q 28), .ref (q 29), .int 0, .int 0])), ((q 26), .inl (k 1, 401, .inl (fun _ => 0)))]) (wr := [((q 200), .inr (12, [.ref (q 201), .ref (q 202), .int 0, .long 0, .long 1, .ref (q 203), .ref (q 204), .ref (q 205), .ref (q 206), .ref (q 207), .int 0, .int 0, .int 0, .int 0, .int 0, .int 0, .int (-1), .int (-1), .int 0, .int 0, .int 0, .ref (q 208), .int 0, .int 0, .ref (q 209), .ref (q 210), .ref (q 211), .ref (q 212), .ref (q 213), .int 0, .int 0, .ref (q 214), .ref (q 215), .ref (q 216), .int 0, .int 0])), ((q 201), .inl (k 1, 5340, .inl at0))]) hx hb hml hown hts hKK hP hD hS hA (p_told l D k q (xs 1)) ci_X11_told qm_L_67 ⟨Nat.le_of_ble_eq_true rfl, Nat.le_of_ble_eq_true rfl⟩ ⟨Nat.le_of_ble_eq_true rfl, Nat.le_of_ble_eq_true rfl⟩ [0, 11, 12, 16, 17] [66, 67] rfl rfl rfl rfl rfl (by decide) 0 rfl rfl rfl hl.1 rfl (Nat.le_of_ble_eq_true rfl) dL_law_736 (fun u_2 H locs hφ hP hD hS => ?_)
  have hP : va_P D vwCl [((q 200), .inr (12, [.ref (q 201), .ref (q 202), .int 0, .long 0, .long 1, .ref (q 203), .ref (q 204), .ref (q 205), .ref (q 206), .ref (q 207), .int 0, .int 0, .int 0, .int 0, .int 0, .int 0, .int (-1), .int (-1), .int 0, .int 0, .int 0, .ref (q 208), .int 0, .int 0, .ref (q 209), .ref (q 210), .ref (q 211), .ref (q 212), .ref (q 213), .int 0, .int 0, .ref (q 214), .ref (q 215), .ref (q 216), .int 0, .int 0])), ((q 201), .inl (k 1, 5340, .inl at0))] H := hP
  have hD : va_D A [((q 200), .inr (12, [.ref (q 201), .ref (q 202), .int 0, .long 0, .long 1, .ref (q 203), .ref (q 204), .ref (q 205), .ref (q 206), .ref (q 207), .int 0, .int 0, .int 0, .int 0, .int 0, .int 0, .int (-1), .int (-1), .int 0, .int 0, .int 0, .ref (q 208), .int 0, .int 0, .ref (q 209), .ref (q 210), .ref (q 211), .ref (q 212), .ref (q 213), .int 0, .int 0, .ref (q 214), .ref (q 215), .ref (q 216), .int 0, .int 0])), ((q 201), .inl (k 1, 5340, .inl at0))] := hD
  refine W.eq (g2 := F0 m 739 ls [.int (inA (xs 1) 5)]) rfl ?_
  refine lv_aload_n hx hb dL_law_739 rfl (lv_at hl 1 rfl) ?_
  refine lv_aload_n hx hb dL_law_740 rfl (lv_at hl 3 rfl) ?_
  refine lv_iload_n hx hb dL_law_741 rfl (lv_at hl 0 rfl) ?_
  refine lv_iconst (v := 1) hx hb dL_law_742 (by decide) ?_
  refine lv_iadd hx hb dL_law_743 ?_
  refine lv_topi (fun x_3 ex_3 => ?_)
  obtain rfl : x_3 = 1 := ex_3.trans (by decide +kernel)
  refine va_sld hx hb hX hbl hbA hS (xin 1 6 rfl (by decide) (by decide)) dL_law_744 ?_
  refine W.eq (g2 := F0 m 745 ls [.int (xs 1), .ref (q 200), .int (inA (xs 1) 5)]) rfl ?_
  refine CWV (As := [.int (xs 1)]) (rest := [.int (inA (xs 1) 5)]) (wc := [((q 200), .inr (12, [.ref (q 201), .ref (q 202), .int 0, .long 0, .long 1, .ref (q 203), .ref (q 204), .ref (q 205), .ref (q 206), .ref (q 207), .int 0, .int 0, .int 0, .int 0, .int 0, .int 0, .int (-1), .int (-1), .int 0, .int 0, .int 0, .ref (q 208), .int 0, .int 0, .ref (q 209), .ref (q 210), .ref (q 211), .ref (q 212), .ref (q 213), .int 0, .int 0, .ref (q 214), .ref (q 215), .ref (q 216), .int 0, .int 0])), ((q 201), .inl (k 1, 5340, .inl at0))]) (wr := []) hx hb hml hown hts hKK hP hD hS hA (r_told l D k q (xs 1)) ci_X12_told qm_L_70 ⟨Nat.le_of_ble_eq_true rfl, Nat.le_of_ble_eq_true rfl⟩ ⟨Nat.le_of_ble_eq_true rfl, Nat.le_of_ble_eq_true rfl⟩ [0, 1] [] rfl rfl rfl rfl rfl (by decide) 0 rfl rfl rfl hl.1 rfl (Nat.le_of_ble_eq_true rfl) dL_law_745 (fun u_4 H locs hφ hP hD hS => ?_)
  have hP : va_P D vwCl [] H := hP
  have hD : va_D A [] := hD
  refine W.eq (g2 := F0 m 748 ls [.int (inA (xs 1) 5), .int (inA (xs 1) 5)]) rfl ?_
  refine lv_icmp_eq (tgt := 2849) hx hb dL_law_748 (by decide) (fun _ => ?_) (fun c => absurd rfl c)
  exact law_done hx hb hr hlocks hX hbl hbA hAf hS (by decide) (by decide) hl
set_option maxHeartbeats 4000000 in
set_option maxRecDepth 100000 in
theorem law_c12 {p : Program} {e : Env} {s : State} {m : MethodId} {below : List Frame} {meth : Method} {c : Code} (l : Launch) {b : Nat} {xs : Nat → Int32} {A : Nat → Prop} {D : va_G} {k : Nat → ClassId} {q : Nat → Nat} {H : Heap} {locs : List Loc} {ls : Array Slot} (C : LC p s m meth c b xs A D k q H locs ls) : W p l e room_1 s m #[Value.ref b] below meth c H locs 123 16705 (lw_Z below #[Value.ref b] s) (F0 m 753 ls []) := by
  obtain ⟨hx, hb, hr, hml, hown, hts, hKK, hX, hbl, hbA, hA, hAf, hlocks, hP, hD, hS, hl⟩ := C
  refine lv_aload_n hx hb dL_law_753 rfl (lv_at hl 2 rfl) ?_
  refine lv_aload_n hx hb dL_law_754 rfl (lv_at hl 3 rfl) ?_
  refine lv_iload_n hx hb dL_law_755 rfl (lv_at hl 0 rfl) ?_
  refine lv_iconst (v := 1) hx hb dL_law_756 (by decide) ?_
  refine lv_iadd hx hb dL_law_757 ?_
  refine lv_topi (fun x_1 ex_1 => ?_)
  obtain rfl : x_1 = 1 := ex_1.trans (by decide +kernel)
  refine va_sld hx hb hX hbl hbA hS (xin 1 6 rfl (by decide) (by decide)) dL_law_758 ?_
  refine W.eq (g2 := F0 m 759 ls [.int (xs 1), .ref (q 0)]) rfl ?_
  refine lv_aload_n hx hb dL_law_759 rfl (lv_at hl 3 rfl) ?_
  refine lv_iload_n hx hb dL_law_760 rfl (lv_at hl 0 rfl) ?_
  refine lv_iconst (v := 2) hx hb dL_law_761 (by decide) ?_
  refine lv_iadd hx hb dL_law_762 ?_
  refine lv_topi (fun x_2 ex_2 => ?_)
  obtain rfl : x_2 = 2 := ex_2.trans (by decide +kernel)
  refine va_sld hx hb hX hbl hbA hS (xin 2 6 rfl (by decide) (by decide)) dL_law_763 ?_
  refine W.eq (g2 := F0 m 764 ls [.int (xs 2), .int (xs 1), .ref (q 0)]) rfl ?_
  refine CWV (As := [.int (xs 1), .int (xs 2)]) (rest := []) (wc := [((q 0), .inr (11, [.ref (q 1), .ref (q 2), .ref (q 3), .ref (q 4), .ref (q 5), .ref (q 6), .ref (q 7), .ref (q 8), .ref (q 9), .ref (q 10), .ref (q 11), .int 0, .int 0, .int 0, .long 0, .long 1])), ((q 2), .inr (8, [.ref (q 20), .ref (q 21), .ref (q 22)])), ((q 20), .inr (5, [.ref (q 23), .ref (q 24), .ref (q 25), .int 0, .int 0, .int 0, .int 0])), ((q 21), .inr (0, [.ref (q 26), .ref (q 27), .ref (q 28), .ref (q 29), .int 0, .int 0]))]) (wr := [((q 200), .inr (12, [.ref (q 201), .ref (q 202), .int 0, .long 0, .long 1, .ref (q 203), .ref (q 204), .ref (q 205), .ref (q 206), .ref (q 207), .int 0, .int 0, .int 0, .int 0, .int 0, .int 0, .int (-1), .int (-1), .int 0, .int 0, .int 0, .ref (q 208), .int 0, .int 0, .ref (q 209), .ref (q 210), .ref (q 211), .ref (q 212), .ref (q 213), .int 0, .int 0, .ref (q 214), .ref (q 215), .ref (q 216), .int 0, .int 0])), ((q 201), .inl (k 1, 5340, .inl at0))]) hx hb hml hown hts hKK hP hD hS hA (p_rock l D k q (xs 1) (xs 2)) ci_X11_rock qm_L_71 ⟨Nat.le_of_ble_eq_true rfl, Nat.le_of_ble_eq_true rfl⟩ ⟨Nat.le_of_ble_eq_true rfl, Nat.le_of_ble_eq_true rfl⟩ [0, 11, 12, 16] [66, 67] rfl rfl rfl rfl rfl (by decide) 0 rfl rfl rfl hl.1 rfl (Nat.le_of_ble_eq_true rfl) dL_law_764 (fun u_3 H locs hφ hP hD hS => ?_)
  have hP : va_P D vwCl [((q 200), .inr (12, [.ref (q 201), .ref (q 202), .int 0, .long 0, .long 1, .ref (q 203), .ref (q 204), .ref (q 205), .ref (q 206), .ref (q 207), .int 0, .int 0, .int 0, .int 0, .int 0, .int 0, .int (-1), .int (-1), .int 0, .int 0, .int 0, .ref (q 208), .int 0, .int 0, .ref (q 209), .ref (q 210), .ref (q 211), .ref (q 212), .ref (q 213), .int 0, .int 0, .ref (q 214), .ref (q 215), .ref (q 216), .int 0, .int 0])), ((q 201), .inl (k 1, 5340, .inl at0))] H := hP
  have hD : va_D A [((q 200), .inr (12, [.ref (q 201), .ref (q 202), .int 0, .long 0, .long 1, .ref (q 203), .ref (q 204), .ref (q 205), .ref (q 206), .ref (q 207), .int 0, .int 0, .int 0, .int 0, .int 0, .int 0, .int (-1), .int (-1), .int 0, .int 0, .int 0, .ref (q 208), .int 0, .int 0, .ref (q 209), .ref (q 210), .ref (q 211), .ref (q 212), .ref (q 213), .int 0, .int 0, .ref (q 214), .ref (q 215), .ref (q 216), .int 0, .int 0])), ((q 201), .inl (k 1, 5340, .inl at0))] := hD
  refine W.eq (g2 := F0 m 767 ls [.int (-1)]) rfl ?_
  refine lv_aload_n hx hb dL_law_767 rfl (lv_at hl 1 rfl) ?_
  refine lv_aload_n hx hb dL_law_768 rfl (lv_at hl 3 rfl) ?_
  refine lv_iload_n hx hb dL_law_769 rfl (lv_at hl 0 rfl) ?_
  refine lv_iconst (v := 1) hx hb dL_law_770 (by decide) ?_
  refine lv_iadd hx hb dL_law_771 ?_
  refine lv_topi (fun x_4 ex_4 => ?_)
  obtain rfl : x_4 = 1 := ex_4.trans (by decide +kernel)
  refine va_sld hx hb hX hbl hbA hS (xin 1 6 rfl (by decide) (by decide)) dL_law_772 ?_
  refine W.eq (g2 := F0 m 773 ls [.int (xs 1), .ref (q 200), .int (-1)]) rfl ?_
  refine lv_aload_n hx hb dL_law_773 rfl (lv_at hl 3 rfl) ?_
  refine lv_iload_n hx hb dL_law_774 rfl (lv_at hl 0 rfl) ?_
  refine lv_iconst (v := 2) hx hb dL_law_775 (by decide) ?_
  refine lv_iadd hx hb dL_law_776 ?_
  refine lv_topi (fun x_5 ex_5 => ?_)
  obtain rfl : x_5 = 2 := ex_5.trans (by decide +kernel)
  refine va_sld hx hb hX hbl hbA hS (xin 2 6 rfl (by decide) (by decide)) dL_law_777 ?_
  refine W.eq (g2 := F0 m 778 ls [.int (xs 2), .int (xs 1), .ref (q 200), .int (-1)]) rfl ?_
  refine CWV (As := [.int (xs 1), .int (xs 2)]) (rest := [.int (-1)]) (wc := [((q 200), .inr (12, [.ref (q 201), .ref (q 202), .int 0, .long 0, .long 1, .ref (q 203), .ref (q 204), .ref (q 205), .ref (q 206), .ref (q 207), .int 0, .int 0, .int 0, .int 0, .int 0, .int 0, .int (-1), .int (-1), .int 0, .int 0, .int 0, .ref (q 208), .int 0, .int 0, .ref (q 209), .ref (q 210), .ref (q 211), .ref (q 212), .ref (q 213), .int 0, .int 0, .ref (q 214), .ref (q 215), .ref (q 216), .int 0, .int 0])), ((q 201), .inl (k 1, 5340, .inl at0))]) (wr := []) hx hb hml hown hts hKK hP hD hS hA (r_rock l D k q (xs 1) (xs 2)) ci_X12_rock qm_L_75 ⟨Nat.le_of_ble_eq_true rfl, Nat.le_of_ble_eq_true rfl⟩ ⟨Nat.le_of_ble_eq_true rfl, Nat.le_of_ble_eq_true rfl⟩ [0, 1] [] rfl rfl rfl rfl rfl (by decide) 0 rfl rfl rfl hl.1 rfl (Nat.le_of_ble_eq_true rfl) dL_law_778 (fun u_6 H locs hφ hP hD hS => ?_)
  have hP : va_P D vwCl [] H := hP
  have hD : va_D A [] := hD
  refine W.eq (g2 := F0 m 781 ls [.int (-1), .int (-1)]) rfl ?_
  refine lv_icmp_eq (tgt := 2849) hx hb dL_law_781 (by decide) (fun _ => ?_) (fun c => absurd (by decide) c)
  exact law_done hx hb hr hlocks hX hbl hbA hAf hS (by decide) (by decide) hl
set_option maxHeartbeats 4000000 in
set_option maxRecDepth 100000 in
theorem law_c13 {p : Program} {e : Env} {s : State} {m : MethodId} {below : List Frame} {meth : Method} {c : Code} (l : Launch) {b : Nat} {xs : Nat → Int32} {A : Nat → Prop} {D : va_G} {k : Nat → ClassId} {q : Nat → Nat} {H : Heap} {locs : List Loc} {ls : Array Slot} (C : LC p s m meth c b xs A D k q H locs ls) : W p l e room_1 s m #[Value.ref b] below meth c H locs 123 16705 (lw_Z below #[Value.ref b] s) (F0 m 786 ls []) := by
  obtain ⟨hx, hb, hr, hml, hown, hts, hKK, hX, hbl, hbA, hA, hAf, hlocks, hP, hD, hS, hl⟩ := C
  refine lv_aload_n hx hb dL_law_786 rfl (lv_at hl 2 rfl) ?_
  refine lv_aload_n hx hb dL_law_787 rfl (lv_at hl 3 rfl) ?_
  refine lv_iload_n hx hb dL_law_788 rfl (lv_at hl 0 rfl) ?_
  refine lv_iconst (v := 1) hx hb dL_law_789 (by decide) ?_
  refine lv_iadd hx hb dL_law_790 ?_
  refine lv_topi (fun x_1 ex_1 => ?_)
  obtain rfl : x_1 = 1 := ex_1.trans (by decide +kernel)
  refine va_sld hx hb hX hbl hbA hS (xin 1 6 rfl (by decide) (by decide)) dL_law_791 ?_
  refine W.eq (g2 := F0 m 792 ls [.int (xs 1), .ref (q 0)]) rfl ?_
  refine lv_aload_n hx hb dL_law_792 rfl (lv_at hl 3 rfl) ?_
  refine lv_iload_n hx hb dL_law_793 rfl (lv_at hl 0 rfl) ?_
  refine lv_iconst (v := 2) hx hb dL_law_794 (by decide) ?_
  refine lv_iadd hx hb dL_law_795 ?_
  refine lv_topi (fun x_2 ex_2 => ?_)
  obtain rfl : x_2 = 2 := ex_2.trans (by decide +kernel)
  refine va_sld hx hb hX hbl hbA hS (xin 2 6 rfl (by decide) (by decide)) dL_law_796 ?_
  refine W.eq (g2 := F0 m 797 ls [.int (xs 2), .int (xs 1), .ref (q 0)]) rfl ?_
  refine CWV (As := [.int (xs 1), .int (xs 2)]) (rest := []) (wc := [((q 0), .inr (11, [.ref (q 1), .ref (q 2), .ref (q 3), .ref (q 4), .ref (q 5), .ref (q 6), .ref (q 7), .ref (q 8), .ref (q 9), .ref (q 10), .ref (q 11), .int 0, .int 0, .int 0, .long 0, .long 1])), ((q 2), .inr (8, [.ref (q 20), .ref (q 21), .ref (q 22)])), ((q 20), .inr (5, [.ref (q 23), .ref (q 24), .ref (q 25), .int 0, .int 0, .int 0, .int 0])), ((q 21), .inr (0, [.ref (q 26), .ref (q 27), .ref (q 28), .ref (q 29), .int 0, .int 0]))]) (wr := [((q 200), .inr (12, [.ref (q 201), .ref (q 202), .int 0, .long 0, .long 1, .ref (q 203), .ref (q 204), .ref (q 205), .ref (q 206), .ref (q 207), .int 0, .int 0, .int 0, .int 0, .int 0, .int 0, .int (-1), .int (-1), .int 0, .int 0, .int 0, .ref (q 208), .int 0, .int 0, .ref (q 209), .ref (q 210), .ref (q 211), .ref (q 212), .ref (q 213), .int 0, .int 0, .ref (q 214), .ref (q 215), .ref (q 216), .int 0, .int 0])), ((q 201), .inl (k 1, 5340, .inl at0))]) hx hb hml hown hts hKK hP hD hS hA (p_ice l D k q (xs 1) (xs 2)) ci_X11_ice qm_L_76 ⟨Nat.le_of_ble_eq_true rfl, Nat.le_of_ble_eq_true rfl⟩ ⟨Nat.le_of_ble_eq_true rfl, Nat.le_of_ble_eq_true rfl⟩ [0, 11, 12, 16] [66, 67] rfl rfl rfl rfl rfl (by decide) 0 rfl rfl rfl hl.1 rfl (Nat.le_of_ble_eq_true rfl) dL_law_797 (fun u_3 H locs hφ hP hD hS => ?_)
  have hP : va_P D vwCl [((q 200), .inr (12, [.ref (q 201), .ref (q 202), .int 0, .long 0, .long 1, .ref (q 203), .ref (q 204), .ref (q 205), .ref (q 206), .ref (q 207), .int 0, .int 0, .int 0, .int 0, .int 0, .int 0, .int (-1), .int (-1), .int 0, .int 0, .int 0, .ref (q 208), .int 0, .int 0, .ref (q 209), .ref (q 210), .ref (q 211), .ref (q 212), .ref (q 213), .int 0, .int 0, .ref (q 214), .ref (q 215), .ref (q 216), .int 0, .int 0])), ((q 201), .inl (k 1, 5340, .inl at0))] H := hP
  have hD : va_D A [((q 200), .inr (12, [.ref (q 201), .ref (q 202), .int 0, .long 0, .long 1, .ref (q 203), .ref (q 204), .ref (q 205), .ref (q 206), .ref (q 207), .int 0, .int 0, .int 0, .int 0, .int 0, .int 0, .int (-1), .int (-1), .int 0, .int 0, .int 0, .ref (q 208), .int 0, .int 0, .ref (q 209), .ref (q 210), .ref (q 211), .ref (q 212), .ref (q 213), .int 0, .int 0, .ref (q 214), .ref (q 215), .ref (q 216), .int 0, .int 0])), ((q 201), .inl (k 1, 5340, .inl at0))] := hD
  refine W.eq (g2 := F0 m 800 ls [.int (-1)]) rfl ?_
  refine lv_aload_n hx hb dL_law_800 rfl (lv_at hl 1 rfl) ?_
  refine lv_aload_n hx hb dL_law_801 rfl (lv_at hl 3 rfl) ?_
  refine lv_iload_n hx hb dL_law_802 rfl (lv_at hl 0 rfl) ?_
  refine lv_iconst (v := 1) hx hb dL_law_803 (by decide) ?_
  refine lv_iadd hx hb dL_law_804 ?_
  refine lv_topi (fun x_4 ex_4 => ?_)
  obtain rfl : x_4 = 1 := ex_4.trans (by decide +kernel)
  refine va_sld hx hb hX hbl hbA hS (xin 1 6 rfl (by decide) (by decide)) dL_law_805 ?_
  refine W.eq (g2 := F0 m 806 ls [.int (xs 1), .ref (q 200), .int (-1)]) rfl ?_
  refine lv_aload_n hx hb dL_law_806 rfl (lv_at hl 3 rfl) ?_
  refine lv_iload_n hx hb dL_law_807 rfl (lv_at hl 0 rfl) ?_
  refine lv_iconst (v := 2) hx hb dL_law_808 (by decide) ?_
  refine lv_iadd hx hb dL_law_809 ?_
  refine lv_topi (fun x_5 ex_5 => ?_)
  obtain rfl : x_5 = 2 := ex_5.trans (by decide +kernel)
  refine va_sld hx hb hX hbl hbA hS (xin 2 6 rfl (by decide) (by decide)) dL_law_810 ?_
  refine W.eq (g2 := F0 m 811 ls [.int (xs 2), .int (xs 1), .ref (q 200), .int (-1)]) rfl ?_
  refine CWV (As := [.int (xs 1), .int (xs 2)]) (rest := [.int (-1)]) (wc := [((q 200), .inr (12, [.ref (q 201), .ref (q 202), .int 0, .long 0, .long 1, .ref (q 203), .ref (q 204), .ref (q 205), .ref (q 206), .ref (q 207), .int 0, .int 0, .int 0, .int 0, .int 0, .int 0, .int (-1), .int (-1), .int 0, .int 0, .int 0, .ref (q 208), .int 0, .int 0, .ref (q 209), .ref (q 210), .ref (q 211), .ref (q 212), .ref (q 213), .int 0, .int 0, .ref (q 214), .ref (q 215), .ref (q 216), .int 0, .int 0])), ((q 201), .inl (k 1, 5340, .inl at0))]) (wr := []) hx hb hml hown hts hKK hP hD hS hA (r_ice l D k q (xs 1) (xs 2)) ci_X12_ice qm_L_79 ⟨Nat.le_of_ble_eq_true rfl, Nat.le_of_ble_eq_true rfl⟩ ⟨Nat.le_of_ble_eq_true rfl, Nat.le_of_ble_eq_true rfl⟩ [0, 1] [] rfl rfl rfl rfl rfl (by decide) 0 rfl rfl rfl hl.1 rfl (Nat.le_of_ble_eq_true rfl) dL_law_811 (fun u_6 H locs hφ hP hD hS => ?_)
  have hP : va_P D vwCl [] H := hP
  have hD : va_D A [] := hD
  refine W.eq (g2 := F0 m 814 ls [.int (-1), .int (-1)]) rfl ?_
  refine lv_icmp_eq (tgt := 2849) hx hb dL_law_814 (by decide) (fun _ => ?_) (fun c => absurd (by decide) c)
  exact law_done hx hb hr hlocks hX hbl hbA hAf hS (by decide) (by decide) hl
set_option maxHeartbeats 4000000 in
set_option maxRecDepth 100000 in
theorem law_c14 {p : Program} {e : Env} {s : State} {m : MethodId} {below : List Frame} {meth : Method} {c : Code} (l : Launch) {b : Nat} {xs : Nat → Int32} {A : Nat → Prop} {D : va_G} {k : Nat → ClassId} {q : Nat → Nat} {H : Heap} {locs : List Loc} {ls : Array Slot} (C : LC p s m meth c b xs A D k q H locs ls) : W p l e room_1 s m #[Value.ref b] below meth c H locs 123 16705 (lw_Z below #[Value.ref b] s) (F0 m 819 ls []) := by
  obtain ⟨hx, hb, hr, hml, hown, hts, hKK, hX, hbl, hbA, hA, hAf, hlocks, hP, hD, hS, hl⟩ := C
  refine lv_aload_n hx hb dL_law_819 rfl (lv_at hl 2 rfl) ?_
  refine lv_aload_n hx hb dL_law_820 rfl (lv_at hl 3 rfl) ?_
  refine lv_iload_n hx hb dL_law_821 rfl (lv_at hl 0 rfl) ?_
  refine lv_iconst (v := 1) hx hb dL_law_822 (by decide) ?_
  refine lv_iadd hx hb dL_law_823 ?_
  refine lv_topi (fun x_1 ex_1 => ?_)
  obtain rfl : x_1 = 1 := ex_1.trans (by decide +kernel)
  refine va_sld hx hb hX hbl hbA hS (xin 1 6 rfl (by decide) (by decide)) dL_law_824 ?_
  refine W.eq (g2 := F0 m 825 ls [.int (xs 1), .ref (q 0)]) rfl ?_
  refine lv_aload_n hx hb dL_law_825 rfl (lv_at hl 3 rfl) ?_
  refine lv_iload_n hx hb dL_law_826 rfl (lv_at hl 0 rfl) ?_
  refine lv_iconst (v := 2) hx hb dL_law_827 (by decide) ?_
  refine lv_iadd hx hb dL_law_828 ?_
  refine lv_topi (fun x_2 ex_2 => ?_)
  obtain rfl : x_2 = 2 := ex_2.trans (by decide +kernel)
  refine va_sld hx hb hX hbl hbA hS (xin 2 6 rfl (by decide) (by decide)) dL_law_829 ?_
  refine W.eq (g2 := F0 m 830 ls [.int (xs 2), .int (xs 1), .ref (q 0)]) rfl ?_
  refine CWV (As := [.int (xs 1), .int (xs 2)]) (rest := []) (wc := [((q 0), .inr (11, [.ref (q 1), .ref (q 2), .ref (q 3), .ref (q 4), .ref (q 5), .ref (q 6), .ref (q 7), .ref (q 8), .ref (q 9), .ref (q 10), .ref (q 11), .int 0, .int 0, .int 0, .long 0, .long 1])), ((q 2), .inr (8, [.ref (q 20), .ref (q 21), .ref (q 22)])), ((q 20), .inr (5, [.ref (q 23), .ref (q 24), .ref (q 25), .int 0, .int 0, .int 0, .int 0])), ((q 21), .inr (0, [.ref (q 26), .ref (q 27), .ref (q 28), .ref (q 29), .int 0, .int 0]))]) (wr := [((q 200), .inr (12, [.ref (q 201), .ref (q 202), .int 0, .long 0, .long 1, .ref (q 203), .ref (q 204), .ref (q 205), .ref (q 206), .ref (q 207), .int 0, .int 0, .int 0, .int 0, .int 0, .int 0, .int (-1), .int (-1), .int 0, .int 0, .int 0, .ref (q 208), .int 0, .int 0, .ref (q 209), .ref (q 210), .ref (q 211), .ref (q 212), .ref (q 213), .int 0, .int 0, .ref (q 214), .ref (q 215), .ref (q 216), .int 0, .int 0])), ((q 201), .inl (k 1, 5340, .inl at0))]) hx hb hml hown hts hKK hP hD hS hA (p_direction l D k q (xs 1) (xs 2)) ci_X11_direction qm_L_80 ⟨Nat.le_of_ble_eq_true rfl, Nat.le_of_ble_eq_true rfl⟩ ⟨Nat.le_of_ble_eq_true rfl, Nat.le_of_ble_eq_true rfl⟩ [0, 11, 12, 16] [66, 67] rfl rfl rfl rfl rfl (by decide) 0 rfl rfl rfl hl.1 rfl (Nat.le_of_ble_eq_true rfl) dL_law_830 (fun u_3 H locs hφ hP hD hS => ?_)
  have hP : va_P D vwCl [((q 200), .inr (12, [.ref (q 201), .ref (q 202), .int 0, .long 0, .long 1, .ref (q 203), .ref (q 204), .ref (q 205), .ref (q 206), .ref (q 207), .int 0, .int 0, .int 0, .int 0, .int 0, .int 0, .int (-1), .int (-1), .int 0, .int 0, .int 0, .ref (q 208), .int 0, .int 0, .ref (q 209), .ref (q 210), .ref (q 211), .ref (q 212), .ref (q 213), .int 0, .int 0, .ref (q 214), .ref (q 215), .ref (q 216), .int 0, .int 0])), ((q 201), .inl (k 1, 5340, .inl at0))] H := hP
  have hD : va_D A [((q 200), .inr (12, [.ref (q 201), .ref (q 202), .int 0, .long 0, .long 1, .ref (q 203), .ref (q 204), .ref (q 205), .ref (q 206), .ref (q 207), .int 0, .int 0, .int 0, .int 0, .int 0, .int 0, .int (-1), .int (-1), .int 0, .int 0, .int 0, .ref (q 208), .int 0, .int 0, .ref (q 209), .ref (q 210), .ref (q 211), .ref (q 212), .ref (q 213), .int 0, .int 0, .ref (q 214), .ref (q 215), .ref (q 216), .int 0, .int 0])), ((q 201), .inl (k 1, 5340, .inl at0))] := hD
  refine W.eq (g2 := F0 m 833 ls [.int (-1)]) rfl ?_
  refine lv_aload_n hx hb dL_law_833 rfl (lv_at hl 1 rfl) ?_
  refine lv_aload_n hx hb dL_law_834 rfl (lv_at hl 3 rfl) ?_
  refine lv_iload_n hx hb dL_law_835 rfl (lv_at hl 0 rfl) ?_
  refine lv_iconst (v := 1) hx hb dL_law_836 (by decide) ?_
  refine lv_iadd hx hb dL_law_837 ?_
  refine lv_topi (fun x_4 ex_4 => ?_)
  obtain rfl : x_4 = 1 := ex_4.trans (by decide +kernel)
  refine va_sld hx hb hX hbl hbA hS (xin 1 6 rfl (by decide) (by decide)) dL_law_838 ?_
  refine W.eq (g2 := F0 m 839 ls [.int (xs 1), .ref (q 200), .int (-1)]) rfl ?_
  refine lv_aload_n hx hb dL_law_839 rfl (lv_at hl 3 rfl) ?_
  refine lv_iload_n hx hb dL_law_840 rfl (lv_at hl 0 rfl) ?_
  refine lv_iconst (v := 2) hx hb dL_law_841 (by decide) ?_
  refine lv_iadd hx hb dL_law_842 ?_
  refine lv_topi (fun x_5 ex_5 => ?_)
  obtain rfl : x_5 = 2 := ex_5.trans (by decide +kernel)
  refine va_sld hx hb hX hbl hbA hS (xin 2 6 rfl (by decide) (by decide)) dL_law_843 ?_
  refine W.eq (g2 := F0 m 844 ls [.int (xs 2), .int (xs 1), .ref (q 200), .int (-1)]) rfl ?_
  refine CWV (As := [.int (xs 1), .int (xs 2)]) (rest := [.int (-1)]) (wc := [((q 200), .inr (12, [.ref (q 201), .ref (q 202), .int 0, .long 0, .long 1, .ref (q 203), .ref (q 204), .ref (q 205), .ref (q 206), .ref (q 207), .int 0, .int 0, .int 0, .int 0, .int 0, .int 0, .int (-1), .int (-1), .int 0, .int 0, .int 0, .ref (q 208), .int 0, .int 0, .ref (q 209), .ref (q 210), .ref (q 211), .ref (q 212), .ref (q 213), .int 0, .int 0, .ref (q 214), .ref (q 215), .ref (q 216), .int 0, .int 0])), ((q 201), .inl (k 1, 5340, .inl at0))]) (wr := []) hx hb hml hown hts hKK hP hD hS hA (r_direction l D k q (xs 1) (xs 2)) ci_X12_direction qm_L_83 ⟨Nat.le_of_ble_eq_true rfl, Nat.le_of_ble_eq_true rfl⟩ ⟨Nat.le_of_ble_eq_true rfl, Nat.le_of_ble_eq_true rfl⟩ [0, 1] [] rfl rfl rfl rfl rfl (by decide) 0 rfl rfl rfl hl.1 rfl (Nat.le_of_ble_eq_true rfl) dL_law_844 (fun u_6 H locs hφ hP hD hS => ?_)
  have hP : va_P D vwCl [] H := hP
  have hD : va_D A [] := hD
  refine W.eq (g2 := F0 m 847 ls [.int (-1), .int (-1)]) rfl ?_
  refine lv_icmp_eq (tgt := 2849) hx hb dL_law_847 (by decide) (fun _ => ?_) (fun c => absurd (by decide) c)
  exact law_done hx hb hr hlocks hX hbl hbA hAf hS (by decide) (by decide) hl
set_option maxHeartbeats 4000000 in
set_option maxRecDepth 100000 in
theorem law_c15 {p : Program} {e : Env} {s : State} {m : MethodId} {below : List Frame} {meth : Method} {c : Code} (l : Launch) {b : Nat} {xs : Nat → Int32} {A : Nat → Prop} {D : va_G} {k : Nat → ClassId} {q : Nat → Nat} {H : Heap} {locs : List Loc} {ls : Array Slot} (C : LC p s m meth c b xs A D k q H locs ls) : W p l e room_1 s m #[Value.ref b] below meth c H locs 123 16705 (lw_Z below #[Value.ref b] s) (F0 m 852 ls []) := by
  obtain ⟨hx, hb, hr, hml, hown, hts, hKK, hX, hbl, hbA, hA, hAf, hlocks, hP, hD, hS, hl⟩ := C
  refine lv_aload_n hx hb dL_law_852 rfl (lv_at hl 2 rfl) ?_
  refine lv_aload_n hx hb dL_law_853 rfl (lv_at hl 3 rfl) ?_
  refine lv_iload_n hx hb dL_law_854 rfl (lv_at hl 0 rfl) ?_
  refine lv_iconst (v := 1) hx hb dL_law_855 (by decide) ?_
  refine lv_iadd hx hb dL_law_856 ?_
  refine lv_topi (fun x_1 ex_1 => ?_)
  obtain rfl : x_1 = 1 := ex_1.trans (by decide +kernel)
  refine va_sld hx hb hX hbl hbA hS (xin 1 6 rfl (by decide) (by decide)) dL_law_857 ?_
  refine W.eq (g2 := F0 m 858 ls [.int (xs 1), .ref (q 0)]) rfl ?_
  refine lv_aload_n hx hb dL_law_858 rfl (lv_at hl 3 rfl) ?_
  refine lv_iload_n hx hb dL_law_859 rfl (lv_at hl 0 rfl) ?_
  refine lv_iconst (v := 2) hx hb dL_law_860 (by decide) ?_
  refine lv_iadd hx hb dL_law_861 ?_
  refine lv_topi (fun x_2 ex_2 => ?_)
  obtain rfl : x_2 = 2 := ex_2.trans (by decide +kernel)
  refine va_sld hx hb hX hbl hbA hS (xin 2 6 rfl (by decide) (by decide)) dL_law_862 ?_
  refine W.eq (g2 := F0 m 863 ls [.int (xs 2), .int (xs 1), .ref (q 0)]) rfl ?_
  refine lv_aload_n hx hb dL_law_863 rfl (lv_at hl 3 rfl) ?_
  refine lv_iload_n hx hb dL_law_864 rfl (lv_at hl 0 rfl) ?_
  refine lv_iconst (v := 3) hx hb dL_law_865 (by decide) ?_
  refine lv_iadd hx hb dL_law_866 ?_
  refine lv_topi (fun x_3 ex_3 => ?_)
  obtain rfl : x_3 = 3 := ex_3.trans (by decide +kernel)
  refine va_sld hx hb hX hbl hbA hS (xin 3 6 rfl (by decide) (by decide)) dL_law_867 ?_
  refine W.eq (g2 := F0 m 868 ls [.int (xs 3), .int (xs 2), .int (xs 1), .ref (q 0)]) rfl ?_
  refine lv_aload_n hx hb dL_law_868 rfl (lv_at hl 3 rfl) ?_
  refine lv_iload_n hx hb dL_law_869 rfl (lv_at hl 0 rfl) ?_
  refine lv_iconst (v := 4) hx hb dL_law_870 (by decide) ?_
  refine lv_iadd hx hb dL_law_871 ?_
  refine lv_topi (fun x_4 ex_4 => ?_)
  obtain rfl : x_4 = 4 := ex_4.trans (by decide +kernel)
  refine va_sld hx hb hX hbl hbA hS (xin 4 6 rfl (by decide) (by decide)) dL_law_872 ?_
  refine W.eq (g2 := F0 m 873 ls [.int (xs 4), .int (xs 3), .int (xs 2), .int (xs 1), .ref (q 0)]) rfl ?_
  refine CWV (As := [.int (xs 1), .int (xs 2), .int (xs 3), .int (xs 4)]) (rest := []) (wc := [((q 0), .inr (11, [.ref (q 1), .ref (q 2), .ref (q 3), .ref (q 4), .ref (q 5), .ref (q 6), .ref (q 7), .ref (q 8), .ref (q 9), .ref (q 10), .ref (q 11), .int 0, .int 0, .int 0, .long 0, .long 1])), ((q 2), .inr (8, [.ref (q 20), .ref (q 21), .ref (q 22)])), ((q 20), .inr (5, [.ref (q 23), .ref (q 24), .ref (q 25), .int 0, .int 0, .int 0, .int 0])), ((q 21), .inr (0, [.ref (q 26), .ref (q 27), .ref (q 28), .ref (q 29), .int 0, .int 0]))]) (wr := [((q 200), .inr (12, [.ref (q 201), .ref (q 202), .int 0, .long 0, .long 1, .ref (q 203), .ref (q 204), .ref (q 205), .ref (q 206), .ref (q 207), .int 0, .int 0, .int 0, .int 0, .int 0, .int 0, .int (-1), .int (-1), .int 0, .int 0, .int 0, .ref (q 208), .int 0, .int 0, .ref (q 209), .ref (q 210), .ref (q 211), .ref (q 212), .ref (q 213), .int 0, .int 0, .ref (q 214), .ref (q 215), .ref (q 216), .int 0, .int 0])), ((q 201), .inl (k 1, 5340, .inl at0))]) hx hb hml hown hts hKK hP hD hS hA (p_light l D k q (xs 1) (xs 2) (xs 3) (xs 4)) ci_X11_light qm_L_84 ⟨Nat.le_of_ble_eq_true rfl, Nat.le_of_ble_eq_true rfl⟩ ⟨Nat.le_of_ble_eq_true rfl, Nat.le_of_ble_eq_true rfl⟩ [0, 11, 12, 16] [66, 67] rfl rfl rfl rfl rfl (by decide) 0 rfl rfl rfl hl.1 rfl (Nat.le_of_ble_eq_true rfl) dL_law_873 (fun u_5 H locs hφ hP hD hS => ?_)
  have hP : va_P D vwCl [((q 200), .inr (12, [.ref (q 201), .ref (q 202), .int 0, .long 0, .long 1, .ref (q 203), .ref (q 204), .ref (q 205), .ref (q 206), .ref (q 207), .int 0, .int 0, .int 0, .int 0, .int 0, .int 0, .int (-1), .int (-1), .int 0, .int 0, .int 0, .ref (q 208), .int 0, .int 0, .ref (q 209), .ref (q 210), .ref (q 211), .ref (q 212), .ref (q 213), .int 0, .int 0, .ref (q 214), .ref (q 215), .ref (q 216), .int 0, .int 0])), ((q 201), .inl (k 1, 5340, .inl at0))] H := hP
  have hD : va_D A [((q 200), .inr (12, [.ref (q 201), .ref (q 202), .int 0, .long 0, .long 1, .ref (q 203), .ref (q 204), .ref (q 205), .ref (q 206), .ref (q 207), .int 0, .int 0, .int 0, .int 0, .int 0, .int 0, .int (-1), .int (-1), .int 0, .int 0, .int 0, .ref (q 208), .int 0, .int 0, .ref (q 209), .ref (q 210), .ref (q 211), .ref (q 212), .ref (q 213), .int 0, .int 0, .ref (q 214), .ref (q 215), .ref (q 216), .int 0, .int 0])), ((q 201), .inl (k 1, 5340, .inl at0))] := hD
  refine W.eq (g2 := F0 m 876 ls [.int (-1)]) rfl ?_
  refine lv_aload_n hx hb dL_law_876 rfl (lv_at hl 1 rfl) ?_
  refine lv_aload_n hx hb dL_law_877 rfl (lv_at hl 3 rfl) ?_
  refine lv_iload_n hx hb dL_law_878 rfl (lv_at hl 0 rfl) ?_
  refine lv_iconst (v := 1) hx hb dL_law_879 (by decide) ?_
  refine lv_iadd hx hb dL_law_880 ?_
  refine lv_topi (fun x_6 ex_6 => ?_)
  obtain rfl : x_6 = 1 := ex_6.trans (by decide +kernel)
  refine va_sld hx hb hX hbl hbA hS (xin 1 6 rfl (by decide) (by decide)) dL_law_881 ?_
  refine W.eq (g2 := F0 m 882 ls [.int (xs 1), .ref (q 200), .int (-1)]) rfl ?_
  refine lv_aload_n hx hb dL_law_882 rfl (lv_at hl 3 rfl) ?_
  refine lv_iload_n hx hb dL_law_883 rfl (lv_at hl 0 rfl) ?_
  refine lv_iconst (v := 2) hx hb dL_law_884 (by decide) ?_
  refine lv_iadd hx hb dL_law_885 ?_
  refine lv_topi (fun x_7 ex_7 => ?_)
  obtain rfl : x_7 = 2 := ex_7.trans (by decide +kernel)
  refine va_sld hx hb hX hbl hbA hS (xin 2 6 rfl (by decide) (by decide)) dL_law_886 ?_
  refine W.eq (g2 := F0 m 887 ls [.int (xs 2), .int (xs 1), .ref (q 200), .int (-1)]) rfl ?_
  refine lv_aload_n hx hb dL_law_887 rfl (lv_at hl 3 rfl) ?_
  refine lv_iload_n hx hb dL_law_888 rfl (lv_at hl 0 rfl) ?_
  refine lv_iconst (v := 3) hx hb dL_law_889 (by decide) ?_
  refine lv_iadd hx hb dL_law_890 ?_
  refine lv_topi (fun x_8 ex_8 => ?_)
  obtain rfl : x_8 = 3 := ex_8.trans (by decide +kernel)
  refine va_sld hx hb hX hbl hbA hS (xin 3 6 rfl (by decide) (by decide)) dL_law_891 ?_
  refine W.eq (g2 := F0 m 892 ls [.int (xs 3), .int (xs 2), .int (xs 1), .ref (q 200), .int (-1)]) rfl ?_
  refine lv_aload_n hx hb dL_law_892 rfl (lv_at hl 3 rfl) ?_
  refine lv_iload_n hx hb dL_law_893 rfl (lv_at hl 0 rfl) ?_
  refine lv_iconst (v := 4) hx hb dL_law_894 (by decide) ?_
  refine lv_iadd hx hb dL_law_895 ?_
  refine lv_topi (fun x_9 ex_9 => ?_)
  obtain rfl : x_9 = 4 := ex_9.trans (by decide +kernel)
  refine va_sld hx hb hX hbl hbA hS (xin 4 6 rfl (by decide) (by decide)) dL_law_896 ?_
  refine W.eq (g2 := F0 m 897 ls [.int (xs 4), .int (xs 3), .int (xs 2), .int (xs 1), .ref (q 200), .int (-1)]) rfl ?_
  refine CWV (As := [.int (xs 1), .int (xs 2), .int (xs 3), .int (xs 4)]) (rest := [.int (-1)]) (wc := [((q 200), .inr (12, [.ref (q 201), .ref (q 202), .int 0, .long 0, .long 1, .ref (q 203), .ref (q 204), .ref (q 205), .ref (q 206), .ref (q 207), .int 0, .int 0, .int 0, .int 0, .int 0, .int 0, .int (-1), .int (-1), .int 0, .int 0, .int 0, .ref (q 208), .int 0, .int 0, .ref (q 209), .ref (q 210), .ref (q 211), .ref (q 212), .ref (q 213), .int 0, .int 0, .ref (q 214), .ref (q 215), .ref (q 216), .int 0, .int 0])), ((q 201), .inl (k 1, 5340, .inl at0))]) (wr := []) hx hb hml hown hts hKK hP hD hS hA (r_light l D k q (xs 1) (xs 2) (xs 3) (xs 4)) ci_X12_light qm_L_88 ⟨Nat.le_of_ble_eq_true rfl, Nat.le_of_ble_eq_true rfl⟩ ⟨Nat.le_of_ble_eq_true rfl, Nat.le_of_ble_eq_true rfl⟩ [0, 1] [] rfl rfl rfl rfl rfl (by decide) 0 rfl rfl rfl hl.1 rfl (Nat.le_of_ble_eq_true rfl) dL_law_897 (fun u_10 H locs hφ hP hD hS => ?_)
  have hP : va_P D vwCl [] H := hP
  have hD : va_D A [] := hD
  refine W.eq (g2 := F0 m 900 ls [.int (-1), .int (-1)]) rfl ?_
  refine lv_icmp_eq (tgt := 2849) hx hb dL_law_900 (by decide) (fun _ => ?_) (fun c => absurd (by decide) c)
  exact law_done hx hb hr hlocks hX hbl hbA hAf hS (by decide) (by decide) hl
set_option maxHeartbeats 4000000 in
set_option maxRecDepth 100000 in
theorem law_c16 {p : Program} {e : Env} {s : State} {m : MethodId} {below : List Frame} {meth : Method} {c : Code} (l : Launch) {b : Nat} {xs : Nat → Int32} {A : Nat → Prop} {D : va_G} {k : Nat → ClassId} {q : Nat → Nat} {H : Heap} {locs : List Loc} {ls : Array Slot} (C : LC p s m meth c b xs A D k q H locs ls) : W p l e room_1 s m #[Value.ref b] below meth c H locs 123 16705 (lw_Z below #[Value.ref b] s) (F0 m 905 ls []) := by
  obtain ⟨hx, hb, hr, hml, hown, hts, hKK, hX, hbl, hbA, hA, hAf, hlocks, hP, hD, hS, hl⟩ := C
  refine lv_aload_n hx hb dL_law_905 rfl (lv_at hl 2 rfl) ?_
  refine lv_aload_n hx hb dL_law_906 rfl (lv_at hl 3 rfl) ?_
  refine lv_iload_n hx hb dL_law_907 rfl (lv_at hl 0 rfl) ?_
  refine lv_iconst (v := 1) hx hb dL_law_908 (by decide) ?_
  refine lv_iadd hx hb dL_law_909 ?_
  refine lv_topi (fun x_1 ex_1 => ?_)
  obtain rfl : x_1 = 1 := ex_1.trans (by decide +kernel)
  refine va_sld hx hb hX hbl hbA hS (xin 1 6 rfl (by decide) (by decide)) dL_law_910 ?_
  refine W.eq (g2 := F0 m 911 ls [.int (xs 1), .ref (q 0)]) rfl ?_
  refine lv_aload_n hx hb dL_law_911 rfl (lv_at hl 3 rfl) ?_
  refine lv_iload_n hx hb dL_law_912 rfl (lv_at hl 0 rfl) ?_
  refine lv_iconst (v := 2) hx hb dL_law_913 (by decide) ?_
  refine lv_iadd hx hb dL_law_914 ?_
  refine lv_topi (fun x_2 ex_2 => ?_)
  obtain rfl : x_2 = 2 := ex_2.trans (by decide +kernel)
  refine va_sld hx hb hX hbl hbA hS (xin 2 6 rfl (by decide) (by decide)) dL_law_915 ?_
  refine W.eq (g2 := F0 m 916 ls [.int (xs 2), .int (xs 1), .ref (q 0)]) rfl ?_
  refine lv_aload_n hx hb dL_law_916 rfl (lv_at hl 3 rfl) ?_
  refine lv_iload_n hx hb dL_law_917 rfl (lv_at hl 0 rfl) ?_
  refine lv_iconst (v := 3) hx hb dL_law_918 (by decide) ?_
  refine lv_iadd hx hb dL_law_919 ?_
  refine lv_topi (fun x_3 ex_3 => ?_)
  obtain rfl : x_3 = 3 := ex_3.trans (by decide +kernel)
  refine va_sld hx hb hX hbl hbA hS (xin 3 6 rfl (by decide) (by decide)) dL_law_920 ?_
  refine W.eq (g2 := F0 m 921 ls [.int (xs 3), .int (xs 2), .int (xs 1), .ref (q 0)]) rfl ?_
  refine CWV (As := [.int (xs 1), .int (xs 2), .int (xs 3)]) (rest := []) (wc := [((q 0), .inr (11, [.ref (q 1), .ref (q 2), .ref (q 3), .ref (q 4), .ref (q 5), .ref (q 6), .ref (q 7), .ref (q 8), .ref (q 9), .ref (q 10), .ref (q 11), .int 0, .int 0, .int 0, .long 0, .long 1])), ((q 2), .inr (8, [.ref (q 20), .ref (q 21), .ref (q 22)])), ((q 20), .inr (5, [.ref (q 23), .ref (q 24), .ref (q 25), .int 0, .int 0, .int 0, .int 0])), ((q 21), .inr (0, [.ref (q 26), .ref (q 27), .ref (q 28), .ref (q 29), .int 0, .int 0]))]) (wr := [((q 200), .inr (12, [.ref (q 201), .ref (q 202), .int 0, .long 0, .long 1, .ref (q 203), .ref (q 204), .ref (q 205), .ref (q 206), .ref (q 207), .int 0, .int 0, .int 0, .int 0, .int 0, .int 0, .int (-1), .int (-1), .int 0, .int 0, .int 0, .ref (q 208), .int 0, .int 0, .ref (q 209), .ref (q 210), .ref (q 211), .ref (q 212), .ref (q 213), .int 0, .int 0, .ref (q 214), .ref (q 215), .ref (q 216), .int 0, .int 0])), ((q 201), .inl (k 1, 5340, .inl at0))]) hx hb hml hown hts hKK hP hD hS hA (p_iced l D k q (xs 1) (xs 2) (xs 3)) ci_X11_iced qm_L_89 ⟨Nat.le_of_ble_eq_true rfl, Nat.le_of_ble_eq_true rfl⟩ ⟨Nat.le_of_ble_eq_true rfl, Nat.le_of_ble_eq_true rfl⟩ [0, 11, 12, 16] [66, 67] rfl rfl rfl rfl rfl (by decide) 0 rfl rfl rfl hl.1 rfl (Nat.le_of_ble_eq_true rfl) dL_law_921 (fun u_4 H locs hφ hP hD hS => ?_)
  have hP : va_P D vwCl [((q 200), .inr (12, [.ref (q 201), .ref (q 202), .int 0, .long 0, .long 1, .ref (q 203), .ref (q 204), .ref (q 205), .ref (q 206), .ref (q 207), .int 0, .int 0, .int 0, .int 0, .int 0, .int 0, .int (-1), .int (-1), .int 0, .int 0, .int 0, .ref (q 208), .int 0, .int 0, .ref (q 209), .ref (q 210), .ref (q 211), .ref (q 212), .ref (q 213), .int 0, .int 0, .ref (q 214), .ref (q 215), .ref (q 216), .int 0, .int 0])), ((q 201), .inl (k 1, 5340, .inl at0))] H := hP
  have hD : va_D A [((q 200), .inr (12, [.ref (q 201), .ref (q 202), .int 0, .long 0, .long 1, .ref (q 203), .ref (q 204), .ref (q 205), .ref (q 206), .ref (q 207), .int 0, .int 0, .int 0, .int 0, .int 0, .int 0, .int (-1), .int (-1), .int 0, .int 0, .int 0, .ref (q 208), .int 0, .int 0, .ref (q 209), .ref (q 210), .ref (q 211), .ref (q 212), .ref (q 213), .int 0, .int 0, .ref (q 214), .ref (q 215), .ref (q 216), .int 0, .int 0])), ((q 201), .inl (k 1, 5340, .inl at0))] := hD
  refine W.eq (g2 := F0 m 924 ls [.int (-1)]) rfl ?_
  refine lv_aload_n hx hb dL_law_924 rfl (lv_at hl 1 rfl) ?_
  refine lv_aload_n hx hb dL_law_925 rfl (lv_at hl 3 rfl) ?_
  refine lv_iload_n hx hb dL_law_926 rfl (lv_at hl 0 rfl) ?_
  refine lv_iconst (v := 1) hx hb dL_law_927 (by decide) ?_
  refine lv_iadd hx hb dL_law_928 ?_
  refine lv_topi (fun x_5 ex_5 => ?_)
  obtain rfl : x_5 = 1 := ex_5.trans (by decide +kernel)
  refine va_sld hx hb hX hbl hbA hS (xin 1 6 rfl (by decide) (by decide)) dL_law_929 ?_
  refine W.eq (g2 := F0 m 930 ls [.int (xs 1), .ref (q 200), .int (-1)]) rfl ?_
  refine lv_aload_n hx hb dL_law_930 rfl (lv_at hl 3 rfl) ?_
  refine lv_iload_n hx hb dL_law_931 rfl (lv_at hl 0 rfl) ?_
  refine lv_iconst (v := 2) hx hb dL_law_932 (by decide) ?_
  refine lv_iadd hx hb dL_law_933 ?_
  refine lv_topi (fun x_6 ex_6 => ?_)
  obtain rfl : x_6 = 2 := ex_6.trans (by decide +kernel)
  refine va_sld hx hb hX hbl hbA hS (xin 2 6 rfl (by decide) (by decide)) dL_law_934 ?_
  refine W.eq (g2 := F0 m 935 ls [.int (xs 2), .int (xs 1), .ref (q 200), .int (-1)]) rfl ?_
  refine lv_aload_n hx hb dL_law_935 rfl (lv_at hl 3 rfl) ?_
  refine lv_iload_n hx hb dL_law_936 rfl (lv_at hl 0 rfl) ?_
  refine lv_iconst (v := 3) hx hb dL_law_937 (by decide) ?_
  refine lv_iadd hx hb dL_law_938 ?_
  refine lv_topi (fun x_7 ex_7 => ?_)
  obtain rfl : x_7 = 3 := ex_7.trans (by decide +kernel)
  refine va_sld hx hb hX hbl hbA hS (xin 3 6 rfl (by decide) (by decide)) dL_law_939 ?_
  refine W.eq (g2 := F0 m 940 ls [.int (xs 3), .int (xs 2), .int (xs 1), .ref (q 200), .int (-1)]) rfl ?_
  refine CWV (As := [.int (xs 1), .int (xs 2), .int (xs 3)]) (rest := [.int (-1)]) (wc := [((q 200), .inr (12, [.ref (q 201), .ref (q 202), .int 0, .long 0, .long 1, .ref (q 203), .ref (q 204), .ref (q 205), .ref (q 206), .ref (q 207), .int 0, .int 0, .int 0, .int 0, .int 0, .int 0, .int (-1), .int (-1), .int 0, .int 0, .int 0, .ref (q 208), .int 0, .int 0, .ref (q 209), .ref (q 210), .ref (q 211), .ref (q 212), .ref (q 213), .int 0, .int 0, .ref (q 214), .ref (q 215), .ref (q 216), .int 0, .int 0])), ((q 201), .inl (k 1, 5340, .inl at0))]) (wr := []) hx hb hml hown hts hKK hP hD hS hA (r_iced l D k q (xs 1) (xs 2) (xs 3)) ci_X12_iced qm_L_93 ⟨Nat.le_of_ble_eq_true rfl, Nat.le_of_ble_eq_true rfl⟩ ⟨Nat.le_of_ble_eq_true rfl, Nat.le_of_ble_eq_true rfl⟩ [0, 1] [] rfl rfl rfl rfl rfl (by decide) 0 rfl rfl rfl hl.1 rfl (Nat.le_of_ble_eq_true rfl) dL_law_940 (fun u_8 H locs hφ hP hD hS => ?_)
  have hP : va_P D vwCl [] H := hP
  have hD : va_D A [] := hD
  refine W.eq (g2 := F0 m 943 ls [.int (-1), .int (-1)]) rfl ?_
  refine lv_icmp_eq (tgt := 2849) hx hb dL_law_943 (by decide) (fun _ => ?_) (fun c => absurd (by decide) c)
  exact law_done hx hb hr hlocks hX hbl hbA hAf hS (by decide) (by decide) hl
set_option maxHeartbeats 4000000 in
set_option maxRecDepth 100000 in
theorem law_c17 {p : Program} {e : Env} {s : State} {m : MethodId} {below : List Frame} {meth : Method} {c : Code} (l : Launch) {b : Nat} {xs : Nat → Int32} {A : Nat → Prop} {D : va_G} {k : Nat → ClassId} {q : Nat → Nat} {H : Heap} {locs : List Loc} {ls : Array Slot} (C : LC p s m meth c b xs A D k q H locs ls) : W p l e room_1 s m #[Value.ref b] below meth c H locs 123 16705 (lw_Z below #[Value.ref b] s) (F0 m 948 ls []) := by
  obtain ⟨hx, hb, hr, hml, hown, hts, hKK, hX, hbl, hbA, hA, hAf, hlocks, hP, hD, hS, hl⟩ := C
  refine lv_aload_n hx hb dL_law_948 rfl (lv_at hl 2 rfl) ?_
  refine lv_aload_n hx hb dL_law_949 rfl (lv_at hl 3 rfl) ?_
  refine lv_iload_n hx hb dL_law_950 rfl (lv_at hl 0 rfl) ?_
  refine lv_iconst (v := 1) hx hb dL_law_951 (by decide) ?_
  refine lv_iadd hx hb dL_law_952 ?_
  refine lv_topi (fun x_1 ex_1 => ?_)
  obtain rfl : x_1 = 1 := ex_1.trans (by decide +kernel)
  refine va_sld hx hb hX hbl hbA hS (xin 1 6 rfl (by decide) (by decide)) dL_law_953 ?_
  refine W.eq (g2 := F0 m 954 ls [.int (xs 1), .ref (q 0)]) rfl ?_
  refine lv_aload_n hx hb dL_law_954 rfl (lv_at hl 3 rfl) ?_
  refine lv_iload_n hx hb dL_law_955 rfl (lv_at hl 0 rfl) ?_
  refine lv_iconst (v := 2) hx hb dL_law_956 (by decide) ?_
  refine lv_iadd hx hb dL_law_957 ?_
  refine lv_topi (fun x_2 ex_2 => ?_)
  obtain rfl : x_2 = 2 := ex_2.trans (by decide +kernel)
  refine va_sld hx hb hX hbl hbA hS (xin 2 6 rfl (by decide) (by decide)) dL_law_958 ?_
  refine W.eq (g2 := F0 m 959 ls [.int (xs 2), .int (xs 1), .ref (q 0)]) rfl ?_
  refine lv_aload_n hx hb dL_law_959 rfl (lv_at hl 3 rfl) ?_
  refine lv_iload_n hx hb dL_law_960 rfl (lv_at hl 0 rfl) ?_
  refine lv_iconst (v := 3) hx hb dL_law_961 (by decide) ?_
  refine lv_iadd hx hb dL_law_962 ?_
  refine lv_topi (fun x_3 ex_3 => ?_)
  obtain rfl : x_3 = 3 := ex_3.trans (by decide +kernel)
  refine va_sld hx hb hX hbl hbA hS (xin 3 6 rfl (by decide) (by decide)) dL_law_963 ?_
  refine W.eq (g2 := F0 m 964 ls [.int (xs 3), .int (xs 2), .int (xs 1), .ref (q 0)]) rfl ?_
  refine CWV (As := [.int (xs 1), .int (xs 2), .int (xs 3)]) (rest := []) (wc := [((q 0), .inr (11, [.ref (q 1), .ref (q 2), .ref (q 3), .ref (q 4), .ref (q 5), .ref (q 6), .ref (q 7), .ref (q 8), .ref (q 9), .ref (q 10), .ref (q 11), .int 0, .int 0, .int 0, .long 0, .long 1])), ((q 2), .inr (8, [.ref (q 20), .ref (q 21), .ref (q 22)])), ((q 20), .inr (5, [.ref (q 23), .ref (q 24), .ref (q 25), .int 0, .int 0, .int 0, .int 0])), ((q 21), .inr (0, [.ref (q 26), .ref (q 27), .ref (q 28), .ref (q 29), .int 0, .int 0]))]) (wr := [((q 200), .inr (12, [.ref (q 201), .ref (q 202), .int 0, .long 0, .long 1, .ref (q 203), .ref (q 204), .ref (q 205), .ref (q 206), .ref (q 207), .int 0, .int 0, .int 0, .int 0, .int 0, .int 0, .int (-1), .int (-1), .int 0, .int 0, .int 0, .ref (q 208), .int 0, .int 0, .ref (q 209), .ref (q 210), .ref (q 211), .ref (q 212), .ref (q 213), .int 0, .int 0, .ref (q 214), .ref (q 215), .ref (q 216), .int 0, .int 0])), ((q 201), .inl (k 1, 5340, .inl at0))]) hx hb hml hown hts hKK hP hD hS hA (p_arrives l D k q (xs 1) (xs 2) (xs 3)) ci_X11_arrives qm_L_94 ⟨Nat.le_of_ble_eq_true rfl, Nat.le_of_ble_eq_true rfl⟩ ⟨Nat.le_of_ble_eq_true rfl, Nat.le_of_ble_eq_true rfl⟩ [0, 11, 12, 16] [66, 67] rfl rfl rfl rfl rfl (by decide) 0 rfl rfl rfl hl.1 rfl (Nat.le_of_ble_eq_true rfl) dL_law_964 (fun u_4 H locs hφ hP hD hS => ?_)
  have hP : va_P D vwCl [((q 200), .inr (12, [.ref (q 201), .ref (q 202), .int 0, .long 0, .long 1, .ref (q 203), .ref (q 204), .ref (q 205), .ref (q 206), .ref (q 207), .int 0, .int 0, .int 0, .int 0, .int 0, .int 0, .int (-1), .int (-1), .int 0, .int 0, .int 0, .ref (q 208), .int 0, .int 0, .ref (q 209), .ref (q 210), .ref (q 211), .ref (q 212), .ref (q 213), .int 0, .int 0, .ref (q 214), .ref (q 215), .ref (q 216), .int 0, .int 0])), ((q 201), .inl (k 1, 5340, .inl at0))] H := hP
  have hD : va_D A [((q 200), .inr (12, [.ref (q 201), .ref (q 202), .int 0, .long 0, .long 1, .ref (q 203), .ref (q 204), .ref (q 205), .ref (q 206), .ref (q 207), .int 0, .int 0, .int 0, .int 0, .int 0, .int 0, .int (-1), .int (-1), .int 0, .int 0, .int 0, .ref (q 208), .int 0, .int 0, .ref (q 209), .ref (q 210), .ref (q 211), .ref (q 212), .ref (q 213), .int 0, .int 0, .ref (q 214), .ref (q 215), .ref (q 216), .int 0, .int 0])), ((q 201), .inl (k 1, 5340, .inl at0))] := hD
  refine W.eq (g2 := F0 m 967 ls [.int (-1)]) rfl ?_
  refine lv_aload_n hx hb dL_law_967 rfl (lv_at hl 1 rfl) ?_
  refine lv_aload_n hx hb dL_law_968 rfl (lv_at hl 3 rfl) ?_
  refine lv_iload_n hx hb dL_law_969 rfl (lv_at hl 0 rfl) ?_
  refine lv_iconst (v := 1) hx hb dL_law_970 (by decide) ?_
  refine lv_iadd hx hb dL_law_971 ?_
  refine lv_topi (fun x_5 ex_5 => ?_)
  obtain rfl : x_5 = 1 := ex_5.trans (by decide +kernel)
  refine va_sld hx hb hX hbl hbA hS (xin 1 6 rfl (by decide) (by decide)) dL_law_972 ?_
  refine W.eq (g2 := F0 m 973 ls [.int (xs 1), .ref (q 200), .int (-1)]) rfl ?_
  refine lv_aload_n hx hb dL_law_973 rfl (lv_at hl 3 rfl) ?_
  refine lv_iload_n hx hb dL_law_974 rfl (lv_at hl 0 rfl) ?_
  refine lv_iconst (v := 2) hx hb dL_law_975 (by decide) ?_
  refine lv_iadd hx hb dL_law_976 ?_
  refine lv_topi (fun x_6 ex_6 => ?_)
  obtain rfl : x_6 = 2 := ex_6.trans (by decide +kernel)
  refine va_sld hx hb hX hbl hbA hS (xin 2 6 rfl (by decide) (by decide)) dL_law_977 ?_
  refine W.eq (g2 := F0 m 978 ls [.int (xs 2), .int (xs 1), .ref (q 200), .int (-1)]) rfl ?_
  refine lv_aload_n hx hb dL_law_978 rfl (lv_at hl 3 rfl) ?_
  refine lv_iload_n hx hb dL_law_979 rfl (lv_at hl 0 rfl) ?_
  refine lv_iconst (v := 3) hx hb dL_law_980 (by decide) ?_
  refine lv_iadd hx hb dL_law_981 ?_
  refine lv_topi (fun x_7 ex_7 => ?_)
  obtain rfl : x_7 = 3 := ex_7.trans (by decide +kernel)
  refine va_sld hx hb hX hbl hbA hS (xin 3 6 rfl (by decide) (by decide)) dL_law_982 ?_
  refine W.eq (g2 := F0 m 983 ls [.int (xs 3), .int (xs 2), .int (xs 1), .ref (q 200), .int (-1)]) rfl ?_
  refine CWV (As := [.int (xs 1), .int (xs 2), .int (xs 3)]) (rest := [.int (-1)]) (wc := [((q 200), .inr (12, [.ref (q 201), .ref (q 202), .int 0, .long 0, .long 1, .ref (q 203), .ref (q 204), .ref (q 205), .ref (q 206), .ref (q 207), .int 0, .int 0, .int 0, .int 0, .int 0, .int 0, .int (-1), .int (-1), .int 0, .int 0, .int 0, .ref (q 208), .int 0, .int 0, .ref (q 209), .ref (q 210), .ref (q 211), .ref (q 212), .ref (q 213), .int 0, .int 0, .ref (q 214), .ref (q 215), .ref (q 216), .int 0, .int 0])), ((q 201), .inl (k 1, 5340, .inl at0))]) (wr := []) hx hb hml hown hts hKK hP hD hS hA (r_arrives l D k q (xs 1) (xs 2) (xs 3)) ci_X12_arrives qm_L_97 ⟨Nat.le_of_ble_eq_true rfl, Nat.le_of_ble_eq_true rfl⟩ ⟨Nat.le_of_ble_eq_true rfl, Nat.le_of_ble_eq_true rfl⟩ [0, 1] [] rfl rfl rfl rfl rfl (by decide) 0 rfl rfl rfl hl.1 rfl (Nat.le_of_ble_eq_true rfl) dL_law_983 (fun u_8 H locs hφ hP hD hS => ?_)
  have hP : va_P D vwCl [] H := hP
  have hD : va_D A [] := hD
  refine W.eq (g2 := F0 m 986 ls [.int (-1), .int (-1)]) rfl ?_
  refine lv_icmp_eq (tgt := 2849) hx hb dL_law_986 (by decide) (fun _ => ?_) (fun c => absurd (by decide) c)
  exact law_done hx hb hr hlocks hX hbl hbA hAf hS (by decide) (by decide) hl
set_option maxHeartbeats 4000000 in
set_option maxRecDepth 100000 in
theorem law_c18 {p : Program} {e : Env} {s : State} {m : MethodId} {below : List Frame} {meth : Method} {c : Code} (l : Launch) {b : Nat} {xs : Nat → Int32} {A : Nat → Prop} {D : va_G} {k : Nat → ClassId} {q : Nat → Nat} {H : Heap} {locs : List Loc} {ls : Array Slot} (C : LC p s m meth c b xs A D k q H locs ls) : W p l e room_1 s m #[Value.ref b] below meth c H locs 123 16705 (lw_Z below #[Value.ref b] s) (F0 m 991 ls []) := by
  obtain ⟨hx, hb, hr, hml, hown, hts, hKK, hX, hbl, hbA, hA, hAf, hlocks, hP, hD, hS, hl⟩ := C
  refine lv_aload_n hx hb dL_law_991 rfl (lv_at hl 2 rfl) ?_
  refine lv_aload_n hx hb dL_law_992 rfl (lv_at hl 3 rfl) ?_
  refine lv_iload_n hx hb dL_law_993 rfl (lv_at hl 0 rfl) ?_
  refine lv_iconst (v := 1) hx hb dL_law_994 (by decide) ?_
  refine lv_iadd hx hb dL_law_995 ?_
  refine lv_topi (fun x_1 ex_1 => ?_)
  obtain rfl : x_1 = 1 := ex_1.trans (by decide +kernel)
  refine va_sld hx hb hX hbl hbA hS (xin 1 6 rfl (by decide) (by decide)) dL_law_996 ?_
  refine W.eq (g2 := F0 m 997 ls [.int (xs 1), .ref (q 0)]) rfl ?_
  refine lv_aload_n hx hb dL_law_997 rfl (lv_at hl 3 rfl) ?_
  refine lv_iload_n hx hb dL_law_998 rfl (lv_at hl 0 rfl) ?_
  refine lv_iconst (v := 2) hx hb dL_law_999 (by decide) ?_
  refine lv_iadd hx hb dL_law_1000 ?_
  refine lv_topi (fun x_2 ex_2 => ?_)
  obtain rfl : x_2 = 2 := ex_2.trans (by decide +kernel)
  refine va_sld hx hb hX hbl hbA hS (xin 2 6 rfl (by decide) (by decide)) dL_law_1001 ?_
  refine W.eq (g2 := F0 m 1002 ls [.int (xs 2), .int (xs 1), .ref (q 0)]) rfl ?_
  refine lv_aload_n hx hb dL_law_1002 rfl (lv_at hl 3 rfl) ?_
  refine lv_iload_n hx hb dL_law_1003 rfl (lv_at hl 0 rfl) ?_
  refine lv_iconst (v := 3) hx hb dL_law_1004 (by decide) ?_
  refine lv_iadd hx hb dL_law_1005 ?_
  refine lv_topi (fun x_3 ex_3 => ?_)
  obtain rfl : x_3 = 3 := ex_3.trans (by decide +kernel)
  refine va_sld hx hb hX hbl hbA hS (xin 3 6 rfl (by decide) (by decide)) dL_law_1006 ?_
  refine W.eq (g2 := F0 m 1007 ls [.int (xs 3), .int (xs 2), .int (xs 1), .ref (q 0)]) rfl ?_
  refine CWV (As := [.int (xs 1), .int (xs 2), .int (xs 3)]) (rest := []) (wc := [((q 0), .inr (11, [.ref (q 1), .ref (q 2), .ref (q 3), .ref (q 4), .ref (q 5), .ref (q 6), .ref (q 7), .ref (q 8), .ref (q 9), .ref (q 10), .ref (q 11), .int 0, .int 0, .int 0, .long 0, .long 1])), ((q 2), .inr (8, [.ref (q 20), .ref (q 21), .ref (q 22)])), ((q 20), .inr (5, [.ref (q 23), .ref (q 24), .ref (q 25), .int 0, .int 0, .int 0, .int 0])), ((q 21), .inr (0, [.ref (q 26), .ref (q 27), .ref (q 28), .ref (q 29), .int 0, .int 0]))]) (wr := [((q 200), .inr (12, [.ref (q 201), .ref (q 202), .int 0, .long 0, .long 1, .ref (q 203), .ref (q 204), .ref (q 205), .ref (q 206), .ref (q 207), .int 0, .int 0, .int 0, .int 0, .int 0, .int 0, .int (-1), .int (-1), .int 0, .int 0, .int 0, .ref (q 208), .int 0, .int 0, .ref (q 209), .ref (q 210), .ref (q 211), .ref (q 212), .ref (q 213), .int 0, .int 0, .ref (q 214), .ref (q 215), .ref (q 216), .int 0, .int 0])), ((q 201), .inl (k 1, 5340, .inl at0))]) hx hb hml hown hts hKK hP hD hS hA (p_ship l D k q (xs 1) (xs 2) (xs 3)) ci_X11_ship qm_L_98 ⟨Nat.le_of_ble_eq_true rfl, Nat.le_of_ble_eq_true rfl⟩ ⟨Nat.le_of_ble_eq_true rfl, Nat.le_of_ble_eq_true rfl⟩ [0, 11, 12, 16] [66, 67] rfl rfl rfl rfl rfl (by decide) 0 rfl rfl rfl hl.1 rfl (Nat.le_of_ble_eq_true rfl) dL_law_1007 (fun u_4 H locs hφ hP hD hS => ?_)
  have hP : va_P D vwCl [((q 200), .inr (12, [.ref (q 201), .ref (q 202), .int 0, .long 0, .long 1, .ref (q 203), .ref (q 204), .ref (q 205), .ref (q 206), .ref (q 207), .int 0, .int 0, .int 0, .int 0, .int 0, .int 0, .int (-1), .int (-1), .int 0, .int 0, .int 0, .ref (q 208), .int 0, .int 0, .ref (q 209), .ref (q 210), .ref (q 211), .ref (q 212), .ref (q 213), .int 0, .int 0, .ref (q 214), .ref (q 215), .ref (q 216), .int 0, .int 0])), ((q 201), .inl (k 1, 5340, .inl at0))] H := hP
  have hD : va_D A [((q 200), .inr (12, [.ref (q 201), .ref (q 202), .int 0, .long 0, .long 1, .ref (q 203), .ref (q 204), .ref (q 205), .ref (q 206), .ref (q 207), .int 0, .int 0, .int 0, .int 0, .int 0, .int 0, .int (-1), .int (-1), .int 0, .int 0, .int 0, .ref (q 208), .int 0, .int 0, .ref (q 209), .ref (q 210), .ref (q 211), .ref (q 212), .ref (q 213), .int 0, .int 0, .ref (q 214), .ref (q 215), .ref (q 216), .int 0, .int 0])), ((q 201), .inl (k 1, 5340, .inl at0))] := hD
  refine W.eq (g2 := F0 m 1010 ls [.int (-1)]) rfl ?_
  refine lv_aload_n hx hb dL_law_1010 rfl (lv_at hl 1 rfl) ?_
  refine lv_aload_n hx hb dL_law_1011 rfl (lv_at hl 3 rfl) ?_
  refine lv_iload_n hx hb dL_law_1012 rfl (lv_at hl 0 rfl) ?_
  refine lv_iconst (v := 1) hx hb dL_law_1013 (by decide) ?_
  refine lv_iadd hx hb dL_law_1014 ?_
  refine lv_topi (fun x_5 ex_5 => ?_)
  obtain rfl : x_5 = 1 := ex_5.trans (by decide +kernel)
  refine va_sld hx hb hX hbl hbA hS (xin 1 6 rfl (by decide) (by decide)) dL_law_1015 ?_
  refine W.eq (g2 := F0 m 1016 ls [.int (xs 1), .ref (q 200), .int (-1)]) rfl ?_
  refine lv_aload_n hx hb dL_law_1016 rfl (lv_at hl 3 rfl) ?_
  refine lv_iload_n hx hb dL_law_1017 rfl (lv_at hl 0 rfl) ?_
  refine lv_iconst (v := 2) hx hb dL_law_1018 (by decide) ?_
  refine lv_iadd hx hb dL_law_1019 ?_
  refine lv_topi (fun x_6 ex_6 => ?_)
  obtain rfl : x_6 = 2 := ex_6.trans (by decide +kernel)
  refine va_sld hx hb hX hbl hbA hS (xin 2 6 rfl (by decide) (by decide)) dL_law_1020 ?_
  refine W.eq (g2 := F0 m 1021 ls [.int (xs 2), .int (xs 1), .ref (q 200), .int (-1)]) rfl ?_
  refine lv_aload_n hx hb dL_law_1021 rfl (lv_at hl 3 rfl) ?_
  refine lv_iload_n hx hb dL_law_1022 rfl (lv_at hl 0 rfl) ?_
  refine lv_iconst (v := 3) hx hb dL_law_1023 (by decide) ?_
  refine lv_iadd hx hb dL_law_1024 ?_
  refine lv_topi (fun x_7 ex_7 => ?_)
  obtain rfl : x_7 = 3 := ex_7.trans (by decide +kernel)
  refine va_sld hx hb hX hbl hbA hS (xin 3 6 rfl (by decide) (by decide)) dL_law_1025 ?_
  refine W.eq (g2 := F0 m 1026 ls [.int (xs 3), .int (xs 2), .int (xs 1), .ref (q 200), .int (-1)]) rfl ?_
  refine CWV (As := [.int (xs 1), .int (xs 2), .int (xs 3)]) (rest := [.int (-1)]) (wc := [((q 200), .inr (12, [.ref (q 201), .ref (q 202), .int 0, .long 0, .long 1, .ref (q 203), .ref (q 204), .ref (q 205), .ref (q 206), .ref (q 207), .int 0, .int 0, .int 0, .int 0, .int 0, .int 0, .int (-1), .int (-1), .int 0, .int 0, .int 0, .ref (q 208), .int 0, .int 0, .ref (q 209), .ref (q 210), .ref (q 211), .ref (q 212), .ref (q 213), .int 0, .int 0, .ref (q 214), .ref (q 215), .ref (q 216), .int 0, .int 0])), ((q 201), .inl (k 1, 5340, .inl at0))]) (wr := []) hx hb hml hown hts hKK hP hD hS hA (r_ship l D k q (xs 1) (xs 2) (xs 3)) ci_X12_ship qm_L_101 ⟨Nat.le_of_ble_eq_true rfl, Nat.le_of_ble_eq_true rfl⟩ ⟨Nat.le_of_ble_eq_true rfl, Nat.le_of_ble_eq_true rfl⟩ [0, 1] [] rfl rfl rfl rfl rfl (by decide) 0 rfl rfl rfl hl.1 rfl (Nat.le_of_ble_eq_true rfl) dL_law_1026 (fun u_8 H locs hφ hP hD hS => ?_)
  have hP : va_P D vwCl [] H := hP
  have hD : va_D A [] := hD
  refine W.eq (g2 := F0 m 1029 ls [.int (-1), .int (-1)]) rfl ?_
  refine lv_icmp_eq (tgt := 2849) hx hb dL_law_1029 (by decide) (fun _ => ?_) (fun c => absurd (by decide) c)
  exact law_done hx hb hr hlocks hX hbl hbA hAf hS (by decide) (by decide) hl
set_option maxHeartbeats 4000000 in
set_option maxRecDepth 100000 in
theorem law_c19 {p : Program} {e : Env} {s : State} {m : MethodId} {below : List Frame} {meth : Method} {c : Code} (l : Launch) {b : Nat} {xs : Nat → Int32} {A : Nat → Prop} {D : va_G} {k : Nat → ClassId} {q : Nat → Nat} {H : Heap} {locs : List Loc} {ls : Array Slot} (C : LC p s m meth c b xs A D k q H locs ls) : W p l e room_1 s m #[Value.ref b] below meth c H locs 123 16705 (lw_Z below #[Value.ref b] s) (F0 m 1034 ls []) := by
  obtain ⟨hx, hb, hr, hml, hown, hts, hKK, hX, hbl, hbA, hA, hAf, hlocks, hP, hD, hS, hl⟩ := C
  refine lv_aload_n hx hb dL_law_1034 rfl (lv_at hl 2 rfl) ?_
  refine lv_aload_n hx hb dL_law_1035 rfl (lv_at hl 3 rfl) ?_
  refine lv_iload_n hx hb dL_law_1036 rfl (lv_at hl 0 rfl) ?_
  refine lv_iconst (v := 1) hx hb dL_law_1037 (by decide) ?_
  refine lv_iadd hx hb dL_law_1038 ?_
  refine lv_topi (fun x_1 ex_1 => ?_)
  obtain rfl : x_1 = 1 := ex_1.trans (by decide +kernel)
  refine va_sld hx hb hX hbl hbA hS (xin 1 6 rfl (by decide) (by decide)) dL_law_1039 ?_
  refine W.eq (g2 := F0 m 1040 ls [.int (xs 1), .ref (q 0)]) rfl ?_
  refine lv_aload_n hx hb dL_law_1040 rfl (lv_at hl 3 rfl) ?_
  refine lv_iload_n hx hb dL_law_1041 rfl (lv_at hl 0 rfl) ?_
  refine lv_iconst (v := 2) hx hb dL_law_1042 (by decide) ?_
  refine lv_iadd hx hb dL_law_1043 ?_
  refine lv_topi (fun x_2 ex_2 => ?_)
  obtain rfl : x_2 = 2 := ex_2.trans (by decide +kernel)
  refine va_sld hx hb hX hbl hbA hS (xin 2 6 rfl (by decide) (by decide)) dL_law_1044 ?_
  refine W.eq (g2 := F0 m 1045 ls [.int (xs 2), .int (xs 1), .ref (q 0)]) rfl ?_
  refine lv_aload_n hx hb dL_law_1045 rfl (lv_at hl 3 rfl) ?_
  refine lv_iload_n hx hb dL_law_1046 rfl (lv_at hl 0 rfl) ?_
  refine lv_iconst (v := 3) hx hb dL_law_1047 (by decide) ?_
  refine lv_iadd hx hb dL_law_1048 ?_
  refine lv_topi (fun x_3 ex_3 => ?_)
  obtain rfl : x_3 = 3 := ex_3.trans (by decide +kernel)
  refine va_sld hx hb hX hbl hbA hS (xin 3 6 rfl (by decide) (by decide)) dL_law_1049 ?_
  refine W.eq (g2 := F0 m 1050 ls [.int (xs 3), .int (xs 2), .int (xs 1), .ref (q 0)]) rfl ?_
  refine CWV (As := [.int (xs 1), .int (xs 2), .int (xs 3)]) (rest := []) (wc := [((q 0), .inr (11, [.ref (q 1), .ref (q 2), .ref (q 3), .ref (q 4), .ref (q 5), .ref (q 6), .ref (q 7), .ref (q 8), .ref (q 9), .ref (q 10), .ref (q 11), .int 0, .int 0, .int 0, .long 0, .long 1])), ((q 2), .inr (8, [.ref (q 20), .ref (q 21), .ref (q 22)])), ((q 20), .inr (5, [.ref (q 23), .ref (q 24), .ref (q 25), .int 0, .int 0, .int 0, .int 0])), ((q 21), .inr (0, [.ref (q 26), .ref (q 27), .ref (q 28), .ref (q 29), .int 0, .int 0]))]) (wr := [((q 200), .inr (12, [.ref (q 201), .ref (q 202), .int 0, .long 0, .long 1, .ref (q 203), .ref (q 204), .ref (q 205), .ref (q 206), .ref (q 207), .int 0, .int 0, .int 0, .int 0, .int 0, .int 0, .int (-1), .int (-1), .int 0, .int 0, .int 0, .ref (q 208), .int 0, .int 0, .ref (q 209), .ref (q 210), .ref (q 211), .ref (q 212), .ref (q 213), .int 0, .int 0, .ref (q 214), .ref (q 215), .ref (q 216), .int 0, .int 0])), ((q 201), .inl (k 1, 5340, .inl at0))]) hx hb hml hown hts hKK hP hD hS hA (p_sees l D k q (xs 1) (xs 2) (xs 3)) ci_X11_sees qm_L_102 ⟨Nat.le_of_ble_eq_true rfl, Nat.le_of_ble_eq_true rfl⟩ ⟨Nat.le_of_ble_eq_true rfl, Nat.le_of_ble_eq_true rfl⟩ [0, 11, 12, 16] [66, 67] rfl rfl rfl rfl rfl (by decide) 0 rfl rfl rfl hl.1 rfl (Nat.le_of_ble_eq_true rfl) dL_law_1050 (fun u_4 H locs hφ hP hD hS => ?_)
  have hP : va_P D vwCl [((q 200), .inr (12, [.ref (q 201), .ref (q 202), .int 0, .long 0, .long 1, .ref (q 203), .ref (q 204), .ref (q 205), .ref (q 206), .ref (q 207), .int 0, .int 0, .int 0, .int 0, .int 0, .int 0, .int (-1), .int (-1), .int 0, .int 0, .int 0, .ref (q 208), .int 0, .int 0, .ref (q 209), .ref (q 210), .ref (q 211), .ref (q 212), .ref (q 213), .int 0, .int 0, .ref (q 214), .ref (q 215), .ref (q 216), .int 0, .int 0])), ((q 201), .inl (k 1, 5340, .inl at0))] H := hP
  have hD : va_D A [((q 200), .inr (12, [.ref (q 201), .ref (q 202), .int 0, .long 0, .long 1, .ref (q 203), .ref (q 204), .ref (q 205), .ref (q 206), .ref (q 207), .int 0, .int 0, .int 0, .int 0, .int 0, .int 0, .int (-1), .int (-1), .int 0, .int 0, .int 0, .ref (q 208), .int 0, .int 0, .ref (q 209), .ref (q 210), .ref (q 211), .ref (q 212), .ref (q 213), .int 0, .int 0, .ref (q 214), .ref (q 215), .ref (q 216), .int 0, .int 0])), ((q 201), .inl (k 1, 5340, .inl at0))] := hD
  refine W.eq (g2 := F0 m 1053 ls [.int (-1)]) rfl ?_
  refine lv_aload_n hx hb dL_law_1053 rfl (lv_at hl 1 rfl) ?_
  refine lv_aload_n hx hb dL_law_1054 rfl (lv_at hl 3 rfl) ?_
  refine lv_iload_n hx hb dL_law_1055 rfl (lv_at hl 0 rfl) ?_
  refine lv_iconst (v := 1) hx hb dL_law_1056 (by decide) ?_
  refine lv_iadd hx hb dL_law_1057 ?_
  refine lv_topi (fun x_5 ex_5 => ?_)
  obtain rfl : x_5 = 1 := ex_5.trans (by decide +kernel)
  refine va_sld hx hb hX hbl hbA hS (xin 1 6 rfl (by decide) (by decide)) dL_law_1058 ?_
  refine W.eq (g2 := F0 m 1059 ls [.int (xs 1), .ref (q 200), .int (-1)]) rfl ?_
  refine lv_aload_n hx hb dL_law_1059 rfl (lv_at hl 3 rfl) ?_
  refine lv_iload_n hx hb dL_law_1060 rfl (lv_at hl 0 rfl) ?_
  refine lv_iconst (v := 2) hx hb dL_law_1061 (by decide) ?_
  refine lv_iadd hx hb dL_law_1062 ?_
  refine lv_topi (fun x_6 ex_6 => ?_)
  obtain rfl : x_6 = 2 := ex_6.trans (by decide +kernel)
  refine va_sld hx hb hX hbl hbA hS (xin 2 6 rfl (by decide) (by decide)) dL_law_1063 ?_
  refine W.eq (g2 := F0 m 1064 ls [.int (xs 2), .int (xs 1), .ref (q 200), .int (-1)]) rfl ?_
  refine lv_aload_n hx hb dL_law_1064 rfl (lv_at hl 3 rfl) ?_
  refine lv_iload_n hx hb dL_law_1065 rfl (lv_at hl 0 rfl) ?_
  refine lv_iconst (v := 3) hx hb dL_law_1066 (by decide) ?_
  refine lv_iadd hx hb dL_law_1067 ?_
  refine lv_topi (fun x_7 ex_7 => ?_)
  obtain rfl : x_7 = 3 := ex_7.trans (by decide +kernel)
  refine va_sld hx hb hX hbl hbA hS (xin 3 6 rfl (by decide) (by decide)) dL_law_1068 ?_
  refine W.eq (g2 := F0 m 1069 ls [.int (xs 3), .int (xs 2), .int (xs 1), .ref (q 200), .int (-1)]) rfl ?_
  refine CWV (As := [.int (xs 1), .int (xs 2), .int (xs 3)]) (rest := [.int (-1)]) (wc := [((q 200), .inr (12, [.ref (q 201), .ref (q 202), .int 0, .long 0, .long 1, .ref (q 203), .ref (q 204), .ref (q 205), .ref (q 206), .ref (q 207), .int 0, .int 0, .int 0, .int 0, .int 0, .int 0, .int (-1), .int (-1), .int 0, .int 0, .int 0, .ref (q 208), .int 0, .int 0, .ref (q 209), .ref (q 210), .ref (q 211), .ref (q 212), .ref (q 213), .int 0, .int 0, .ref (q 214), .ref (q 215), .ref (q 216), .int 0, .int 0])), ((q 201), .inl (k 1, 5340, .inl at0))]) (wr := []) hx hb hml hown hts hKK hP hD hS hA (r_sees l D k q (xs 1) (xs 2) (xs 3)) ci_X12_sees qm_L_105 ⟨Nat.le_of_ble_eq_true rfl, Nat.le_of_ble_eq_true rfl⟩ ⟨Nat.le_of_ble_eq_true rfl, Nat.le_of_ble_eq_true rfl⟩ [0, 1] [] rfl rfl rfl rfl rfl (by decide) 0 rfl rfl rfl hl.1 rfl (Nat.le_of_ble_eq_true rfl) dL_law_1069 (fun u_8 H locs hφ hP hD hS => ?_)
  have hP : va_P D vwCl [] H := hP
  have hD : va_D A [] := hD
  refine W.eq (g2 := F0 m 1072 ls [.int (-1), .int (-1)]) rfl ?_
  refine lv_icmp_eq (tgt := 2849) hx hb dL_law_1072 (by decide) (fun _ => ?_) (fun c => absurd (by decide) c)
  exact law_done hx hb hr hlocks hX hbl hbA hAf hS (by decide) (by decide) hl
set_option maxHeartbeats 4000000 in
set_option maxRecDepth 100000 in
theorem law_c20 {p : Program} {e : Env} {s : State} {m : MethodId} {below : List Frame} {meth : Method} {c : Code} (l : Launch) {b : Nat} {xs : Nat → Int32} {A : Nat → Prop} {D : va_G} {k : Nat → ClassId} {q : Nat → Nat} {H : Heap} {locs : List Loc} {ls : Array Slot} (C : LC p s m meth c b xs A D k q H locs ls) : W p l e room_1 s m #[Value.ref b] below meth c H locs 123 16705 (lw_Z below #[Value.ref b] s) (F0 m 1077 ls []) := by
  obtain ⟨hx, hb, hr, hml, hown, hts, hKK, hX, hbl, hbA, hA, hAf, hlocks, hP, hD, hS, hl⟩ := C
  refine lv_aload_n hx hb dL_law_1077 rfl (lv_at hl 2 rfl) ?_
  refine lv_aload_n hx hb dL_law_1078 rfl (lv_at hl 3 rfl) ?_
  refine lv_iload_n hx hb dL_law_1079 rfl (lv_at hl 0 rfl) ?_
  refine lv_iconst (v := 1) hx hb dL_law_1080 (by decide) ?_
  refine lv_iadd hx hb dL_law_1081 ?_
  refine lv_topi (fun x_1 ex_1 => ?_)
  obtain rfl : x_1 = 1 := ex_1.trans (by decide +kernel)
  refine va_sld hx hb hX hbl hbA hS (xin 1 6 rfl (by decide) (by decide)) dL_law_1082 ?_
  refine W.eq (g2 := F0 m 1083 ls [.int (xs 1), .ref (q 0)]) rfl ?_
  refine lv_aload_n hx hb dL_law_1083 rfl (lv_at hl 3 rfl) ?_
  refine lv_iload_n hx hb dL_law_1084 rfl (lv_at hl 0 rfl) ?_
  refine lv_iconst (v := 2) hx hb dL_law_1085 (by decide) ?_
  refine lv_iadd hx hb dL_law_1086 ?_
  refine lv_topi (fun x_2 ex_2 => ?_)
  obtain rfl : x_2 = 2 := ex_2.trans (by decide +kernel)
  refine va_sld hx hb hX hbl hbA hS (xin 2 6 rfl (by decide) (by decide)) dL_law_1087 ?_
  refine W.eq (g2 := F0 m 1088 ls [.int (xs 2), .int (xs 1), .ref (q 0)]) rfl ?_
  refine CWV (As := [.int (xs 1), .int (xs 2)]) (rest := []) (wc := [((q 0), .inr (11, [.ref (q 1), .ref (q 2), .ref (q 3), .ref (q 4), .ref (q 5), .ref (q 6), .ref (q 7), .ref (q 8), .ref (q 9), .ref (q 10), .ref (q 11), .int 0, .int 0, .int 0, .long 0, .long 1])), ((q 2), .inr (8, [.ref (q 20), .ref (q 21), .ref (q 22)])), ((q 20), .inr (5, [.ref (q 23), .ref (q 24), .ref (q 25), .int 0, .int 0, .int 0, .int 0])), ((q 21), .inr (0, [.ref (q 26), .ref (q 27), .ref (q 28), .ref (q 29), .int 0, .int 0]))]) (wr := [((q 200), .inr (12, [.ref (q 201), .ref (q 202), .int 0, .long 0, .long 1, .ref (q 203), .ref (q 204), .ref (q 205), .ref (q 206), .ref (q 207), .int 0, .int 0, .int 0, .int 0, .int 0, .int 0, .int (-1), .int (-1), .int 0, .int 0, .int 0, .ref (q 208), .int 0, .int 0, .ref (q 209), .ref (q 210), .ref (q 211), .ref (q 212), .ref (q 213), .int 0, .int 0, .ref (q 214), .ref (q 215), .ref (q 216), .int 0, .int 0])), ((q 201), .inl (k 1, 5340, .inl at0))]) hx hb hml hown hts hKK hP hD hS hA (p_nearest l D k q (xs 1) (xs 2)) ci_X11_nearest qm_L_106 ⟨Nat.le_of_ble_eq_true rfl, Nat.le_of_ble_eq_true rfl⟩ ⟨Nat.le_of_ble_eq_true rfl, Nat.le_of_ble_eq_true rfl⟩ [0, 11, 12, 16] [66, 67] rfl rfl rfl rfl rfl (by decide) 0 rfl rfl rfl hl.1 rfl (Nat.le_of_ble_eq_true rfl) dL_law_1088 (fun u_3 H locs hφ hP hD hS => ?_)
  have hP : va_P D vwCl [((q 200), .inr (12, [.ref (q 201), .ref (q 202), .int 0, .long 0, .long 1, .ref (q 203), .ref (q 204), .ref (q 205), .ref (q 206), .ref (q 207), .int 0, .int 0, .int 0, .int 0, .int 0, .int 0, .int (-1), .int (-1), .int 0, .int 0, .int 0, .ref (q 208), .int 0, .int 0, .ref (q 209), .ref (q 210), .ref (q 211), .ref (q 212), .ref (q 213), .int 0, .int 0, .ref (q 214), .ref (q 215), .ref (q 216), .int 0, .int 0])), ((q 201), .inl (k 1, 5340, .inl at0))] H := hP
  have hD : va_D A [((q 200), .inr (12, [.ref (q 201), .ref (q 202), .int 0, .long 0, .long 1, .ref (q 203), .ref (q 204), .ref (q 205), .ref (q 206), .ref (q 207), .int 0, .int 0, .int 0, .int 0, .int 0, .int 0, .int (-1), .int (-1), .int 0, .int 0, .int 0, .ref (q 208), .int 0, .int 0, .ref (q 209), .ref (q 210), .ref (q 211), .ref (q 212), .ref (q 213), .int 0, .int 0, .ref (q 214), .ref (q 215), .ref (q 216), .int 0, .int 0])), ((q 201), .inl (k 1, 5340, .inl at0))] := hD
  refine W.eq (g2 := F0 m 1091 ls [.int (-1)]) rfl ?_
  refine lv_aload_n hx hb dL_law_1091 rfl (lv_at hl 1 rfl) ?_
  refine lv_aload_n hx hb dL_law_1092 rfl (lv_at hl 3 rfl) ?_
  refine lv_iload_n hx hb dL_law_1093 rfl (lv_at hl 0 rfl) ?_
  refine lv_iconst (v := 1) hx hb dL_law_1094 (by decide) ?_
  refine lv_iadd hx hb dL_law_1095 ?_
  refine lv_topi (fun x_4 ex_4 => ?_)
  obtain rfl : x_4 = 1 := ex_4.trans (by decide +kernel)
  refine va_sld hx hb hX hbl hbA hS (xin 1 6 rfl (by decide) (by decide)) dL_law_1096 ?_
  refine W.eq (g2 := F0 m 1097 ls [.int (xs 1), .ref (q 200), .int (-1)]) rfl ?_
  refine lv_aload_n hx hb dL_law_1097 rfl (lv_at hl 3 rfl) ?_
  refine lv_iload_n hx hb dL_law_1098 rfl (lv_at hl 0 rfl) ?_
  refine lv_iconst (v := 2) hx hb dL_law_1099 (by decide) ?_
  refine lv_iadd hx hb dL_law_1100 ?_
  refine lv_topi (fun x_5 ex_5 => ?_)
  obtain rfl : x_5 = 2 := ex_5.trans (by decide +kernel)
  refine va_sld hx hb hX hbl hbA hS (xin 2 6 rfl (by decide) (by decide)) dL_law_1101 ?_
  refine W.eq (g2 := F0 m 1102 ls [.int (xs 2), .int (xs 1), .ref (q 200), .int (-1)]) rfl ?_
  refine CWV (As := [.int (xs 1), .int (xs 2)]) (rest := [.int (-1)]) (wc := [((q 200), .inr (12, [.ref (q 201), .ref (q 202), .int 0, .long 0, .long 1, .ref (q 203), .ref (q 204), .ref (q 205), .ref (q 206), .ref (q 207), .int 0, .int 0, .int 0, .int 0, .int 0, .int 0, .int (-1), .int (-1), .int 0, .int 0, .int 0, .ref (q 208), .int 0, .int 0, .ref (q 209), .ref (q 210), .ref (q 211), .ref (q 212), .ref (q 213), .int 0, .int 0, .ref (q 214), .ref (q 215), .ref (q 216), .int 0, .int 0])), ((q 201), .inl (k 1, 5340, .inl at0))]) (wr := []) hx hb hml hown hts hKK hP hD hS hA (r_nearest l D k q (xs 1) (xs 2)) ci_X12_nearest qm_L_109 ⟨Nat.le_of_ble_eq_true rfl, Nat.le_of_ble_eq_true rfl⟩ ⟨Nat.le_of_ble_eq_true rfl, Nat.le_of_ble_eq_true rfl⟩ [0, 1] [] rfl rfl rfl rfl rfl (by decide) 0 rfl rfl rfl hl.1 rfl (Nat.le_of_ble_eq_true rfl) dL_law_1102 (fun u_6 H locs hφ hP hD hS => ?_)
  have hP : va_P D vwCl [] H := hP
  have hD : va_D A [] := hD
  refine W.eq (g2 := F0 m 1105 ls [.int (-1), .int (-1)]) rfl ?_
  refine lv_icmp_eq (tgt := 2849) hx hb dL_law_1105 (by decide) (fun _ => ?_) (fun c => absurd (by decide) c)
  exact law_done hx hb hr hlocks hX hbl hbA hAf hS (by decide) (by decide) hl
set_option maxHeartbeats 4000000 in
set_option maxRecDepth 100000 in
theorem law_c21 {p : Program} {e : Env} {s : State} {m : MethodId} {below : List Frame} {meth : Method} {c : Code} (l : Launch) {b : Nat} {xs : Nat → Int32} {A : Nat → Prop} {D : va_G} {k : Nat → ClassId} {q : Nat → Nat} {H : Heap} {locs : List Loc} {ls : Array Slot} (C : LC p s m meth c b xs A D k q H locs ls) : W p l e room_1 s m #[Value.ref b] below meth c H locs 123 16705 (lw_Z below #[Value.ref b] s) (F0 m 1110 ls []) := by
  obtain ⟨hx, hb, hr, hml, hown, hts, hKK, hX, hbl, hbA, hA, hAf, hlocks, hP, hD, hS, hl⟩ := C
  refine lv_aload_n hx hb dL_law_1110 rfl (lv_at hl 2 rfl) ?_
  refine lv_aload_n hx hb dL_law_1111 rfl (lv_at hl 3 rfl) ?_
  refine lv_iload_n hx hb dL_law_1112 rfl (lv_at hl 0 rfl) ?_
  refine lv_iconst (v := 1) hx hb dL_law_1113 (by decide) ?_
  refine lv_iadd hx hb dL_law_1114 ?_
  refine lv_topi (fun x_1 ex_1 => ?_)
  obtain rfl : x_1 = 1 := ex_1.trans (by decide +kernel)
  refine va_sld hx hb hX hbl hbA hS (xin 1 6 rfl (by decide) (by decide)) dL_law_1115 ?_
  refine W.eq (g2 := F0 m 1116 ls [.int (xs 1), .ref (q 0)]) rfl ?_
  refine lv_aload_n hx hb dL_law_1116 rfl (lv_at hl 3 rfl) ?_
  refine lv_iload_n hx hb dL_law_1117 rfl (lv_at hl 0 rfl) ?_
  refine lv_iconst (v := 2) hx hb dL_law_1118 (by decide) ?_
  refine lv_iadd hx hb dL_law_1119 ?_
  refine lv_topi (fun x_2 ex_2 => ?_)
  obtain rfl : x_2 = 2 := ex_2.trans (by decide +kernel)
  refine va_sld hx hb hX hbl hbA hS (xin 2 6 rfl (by decide) (by decide)) dL_law_1120 ?_
  refine W.eq (g2 := F0 m 1121 ls [.int (xs 2), .int (xs 1), .ref (q 0)]) rfl ?_
  refine lv_aload_n hx hb dL_law_1121 rfl (lv_at hl 3 rfl) ?_
  refine lv_iload_n hx hb dL_law_1122 rfl (lv_at hl 0 rfl) ?_
  refine lv_iconst (v := 3) hx hb dL_law_1123 (by decide) ?_
  refine lv_iadd hx hb dL_law_1124 ?_
  refine lv_topi (fun x_3 ex_3 => ?_)
  obtain rfl : x_3 = 3 := ex_3.trans (by decide +kernel)
  refine va_sld hx hb hX hbl hbA hS (xin 3 6 rfl (by decide) (by decide)) dL_law_1125 ?_
  refine W.eq (g2 := F0 m 1126 ls [.int (xs 3), .int (xs 2), .int (xs 1), .ref (q 0)]) rfl ?_
  refine lv_aload_n hx hb dL_law_1126 rfl (lv_at hl 3 rfl) ?_
  refine lv_iload_n hx hb dL_law_1127 rfl (lv_at hl 0 rfl) ?_
  refine lv_iconst (v := 4) hx hb dL_law_1128 (by decide) ?_
  refine lv_iadd hx hb dL_law_1129 ?_
  refine lv_topi (fun x_4 ex_4 => ?_)
  obtain rfl : x_4 = 4 := ex_4.trans (by decide +kernel)
  refine va_sld hx hb hX hbl hbA hS (xin 4 6 rfl (by decide) (by decide)) dL_law_1130 ?_
  refine W.eq (g2 := F0 m 1131 ls [.int (xs 4), .int (xs 3), .int (xs 2), .int (xs 1), .ref (q 0)]) rfl ?_
  refine CWV (As := [.int (xs 1), .int (xs 2), .int (xs 3), .int (xs 4)]) (rest := []) (wc := [((q 0), .inr (11, [.ref (q 1), .ref (q 2), .ref (q 3), .ref (q 4), .ref (q 5), .ref (q 6), .ref (q 7), .ref (q 8), .ref (q 9), .ref (q 10), .ref (q 11), .int 0, .int 0, .int 0, .long 0, .long 1])), ((q 2), .inr (8, [.ref (q 20), .ref (q 21), .ref (q 22)])), ((q 20), .inr (5, [.ref (q 23), .ref (q 24), .ref (q 25), .int 0, .int 0, .int 0, .int 0])), ((q 21), .inr (0, [.ref (q 26), .ref (q 27), .ref (q 28), .ref (q 29), .int 0, .int 0]))]) (wr := [((q 200), .inr (12, [.ref (q 201), .ref (q 202), .int 0, .long 0, .long 1, .ref (q 203), .ref (q 204), .ref (q 205), .ref (q 206), .ref (q 207), .int 0, .int 0, .int 0, .int 0, .int 0, .int 0, .int (-1), .int (-1), .int 0, .int 0, .int 0, .ref (q 208), .int 0, .int 0, .ref (q 209), .ref (q 210), .ref (q 211), .ref (q 212), .ref (q 213), .int 0, .int 0, .ref (q 214), .ref (q 215), .ref (q 216), .int 0, .int 0])), ((q 201), .inl (k 1, 5340, .inl at0))]) hx hb hml hown hts hKK hP hD hS hA (p_meetings l D k q (xs 1) (xs 2) (xs 3) (xs 4)) ci_X11_meetings qm_L_110 ⟨Nat.le_of_ble_eq_true rfl, Nat.le_of_ble_eq_true rfl⟩ ⟨Nat.le_of_ble_eq_true rfl, Nat.le_of_ble_eq_true rfl⟩ [0, 11, 12, 16] [66, 67] rfl rfl rfl rfl rfl (by decide) 0 rfl rfl rfl hl.1 rfl (Nat.le_of_ble_eq_true rfl) dL_law_1131 (fun u_5 H locs hφ hP hD hS => ?_)
  have hP : va_P D vwCl [((q 200), .inr (12, [.ref (q 201), .ref (q 202), .int 0, .long 0, .long 1, .ref (q 203), .ref (q 204), .ref (q 205), .ref (q 206), .ref (q 207), .int 0, .int 0, .int 0, .int 0, .int 0, .int 0, .int (-1), .int (-1), .int 0, .int 0, .int 0, .ref (q 208), .int 0, .int 0, .ref (q 209), .ref (q 210), .ref (q 211), .ref (q 212), .ref (q 213), .int 0, .int 0, .ref (q 214), .ref (q 215), .ref (q 216), .int 0, .int 0])), ((q 201), .inl (k 1, 5340, .inl at0))] H := hP
  have hD : va_D A [((q 200), .inr (12, [.ref (q 201), .ref (q 202), .int 0, .long 0, .long 1, .ref (q 203), .ref (q 204), .ref (q 205), .ref (q 206), .ref (q 207), .int 0, .int 0, .int 0, .int 0, .int 0, .int 0, .int (-1), .int (-1), .int 0, .int 0, .int 0, .ref (q 208), .int 0, .int 0, .ref (q 209), .ref (q 210), .ref (q 211), .ref (q 212), .ref (q 213), .int 0, .int 0, .ref (q 214), .ref (q 215), .ref (q 216), .int 0, .int 0])), ((q 201), .inl (k 1, 5340, .inl at0))] := hD
  refine W.eq (g2 := F0 m 1134 ls [.int (-1)]) rfl ?_
  refine lv_aload_n hx hb dL_law_1134 rfl (lv_at hl 1 rfl) ?_
  refine lv_aload_n hx hb dL_law_1135 rfl (lv_at hl 3 rfl) ?_
  refine lv_iload_n hx hb dL_law_1136 rfl (lv_at hl 0 rfl) ?_
  refine lv_iconst (v := 1) hx hb dL_law_1137 (by decide) ?_
  refine lv_iadd hx hb dL_law_1138 ?_
  refine lv_topi (fun x_6 ex_6 => ?_)
  obtain rfl : x_6 = 1 := ex_6.trans (by decide +kernel)
  refine va_sld hx hb hX hbl hbA hS (xin 1 6 rfl (by decide) (by decide)) dL_law_1139 ?_
  refine W.eq (g2 := F0 m 1140 ls [.int (xs 1), .ref (q 200), .int (-1)]) rfl ?_
  refine lv_aload_n hx hb dL_law_1140 rfl (lv_at hl 3 rfl) ?_
  refine lv_iload_n hx hb dL_law_1141 rfl (lv_at hl 0 rfl) ?_
  refine lv_iconst (v := 2) hx hb dL_law_1142 (by decide) ?_
  refine lv_iadd hx hb dL_law_1143 ?_
  refine lv_topi (fun x_7 ex_7 => ?_)
  obtain rfl : x_7 = 2 := ex_7.trans (by decide +kernel)
  refine va_sld hx hb hX hbl hbA hS (xin 2 6 rfl (by decide) (by decide)) dL_law_1144 ?_
  refine W.eq (g2 := F0 m 1145 ls [.int (xs 2), .int (xs 1), .ref (q 200), .int (-1)]) rfl ?_
  refine lv_aload_n hx hb dL_law_1145 rfl (lv_at hl 3 rfl) ?_
  refine lv_iload_n hx hb dL_law_1146 rfl (lv_at hl 0 rfl) ?_
  refine lv_iconst (v := 3) hx hb dL_law_1147 (by decide) ?_
  refine lv_iadd hx hb dL_law_1148 ?_
  refine lv_topi (fun x_8 ex_8 => ?_)
  obtain rfl : x_8 = 3 := ex_8.trans (by decide +kernel)
  refine va_sld hx hb hX hbl hbA hS (xin 3 6 rfl (by decide) (by decide)) dL_law_1149 ?_
  refine W.eq (g2 := F0 m 1150 ls [.int (xs 3), .int (xs 2), .int (xs 1), .ref (q 200), .int (-1)]) rfl ?_
  refine lv_aload_n hx hb dL_law_1150 rfl (lv_at hl 3 rfl) ?_
  refine lv_iload_n hx hb dL_law_1151 rfl (lv_at hl 0 rfl) ?_
  refine lv_iconst (v := 4) hx hb dL_law_1152 (by decide) ?_
  refine lv_iadd hx hb dL_law_1153 ?_
  refine lv_topi (fun x_9 ex_9 => ?_)
  obtain rfl : x_9 = 4 := ex_9.trans (by decide +kernel)
  refine va_sld hx hb hX hbl hbA hS (xin 4 6 rfl (by decide) (by decide)) dL_law_1154 ?_
  refine W.eq (g2 := F0 m 1155 ls [.int (xs 4), .int (xs 3), .int (xs 2), .int (xs 1), .ref (q 200), .int (-1)]) rfl ?_
  refine CWV (As := [.int (xs 1), .int (xs 2), .int (xs 3), .int (xs 4)]) (rest := [.int (-1)]) (wc := [((q 200), .inr (12, [.ref (q 201), .ref (q 202), .int 0, .long 0, .long 1, .ref (q 203), .ref (q 204), .ref (q 205), .ref (q 206), .ref (q 207), .int 0, .int 0, .int 0, .int 0, .int 0, .int 0, .int (-1), .int (-1), .int 0, .int 0, .int 0, .ref (q 208), .int 0, .int 0, .ref (q 209), .ref (q 210), .ref (q 211), .ref (q 212), .ref (q 213), .int 0, .int 0, .ref (q 214), .ref (q 215), .ref (q 216), .int 0, .int 0])), ((q 201), .inl (k 1, 5340, .inl at0))]) (wr := []) hx hb hml hown hts hKK hP hD hS hA (r_meetings l D k q (xs 1) (xs 2) (xs 3) (xs 4)) ci_X12_meetings qm_L_113 ⟨Nat.le_of_ble_eq_true rfl, Nat.le_of_ble_eq_true rfl⟩ ⟨Nat.le_of_ble_eq_true rfl, Nat.le_of_ble_eq_true rfl⟩ [0, 1] [] rfl rfl rfl rfl rfl (by decide) 0 rfl rfl rfl hl.1 rfl (Nat.le_of_ble_eq_true rfl) dL_law_1155 (fun u_10 H locs hφ hP hD hS => ?_)
  have hP : va_P D vwCl [] H := hP
  have hD : va_D A [] := hD
  refine W.eq (g2 := F0 m 1158 ls [.int (-1), .int (-1)]) rfl ?_
  refine lv_icmp_eq (tgt := 2849) hx hb dL_law_1158 (by decide) (fun _ => ?_) (fun c => absurd (by decide) c)
  exact law_done hx hb hr hlocks hX hbl hbA hAf hS (by decide) (by decide) hl
set_option maxHeartbeats 4000000 in
set_option maxRecDepth 100000 in
theorem law_c22 {p : Program} {e : Env} {s : State} {m : MethodId} {below : List Frame} {meth : Method} {c : Code} (l : Launch) {b : Nat} {xs : Nat → Int32} {A : Nat → Prop} {D : va_G} {k : Nat → ClassId} {q : Nat → Nat} {H : Heap} {locs : List Loc} {ls : Array Slot} (C : LC p s m meth c b xs A D k q H locs ls) : W p l e room_1 s m #[Value.ref b] below meth c H locs 123 16705 (lw_Z below #[Value.ref b] s) (F0 m 1163 ls []) := by
  obtain ⟨hx, hb, hr, hml, hown, hts, hKK, hX, hbl, hbA, hA, hAf, hlocks, hP, hD, hS, hl⟩ := C
  refine lv_aload_n hx hb dL_law_1163 rfl (lv_at hl 2 rfl) ?_
  refine lv_aload_n hx hb dL_law_1164 rfl (lv_at hl 3 rfl) ?_
  refine lv_iload_n hx hb dL_law_1165 rfl (lv_at hl 0 rfl) ?_
  refine lv_iconst (v := 1) hx hb dL_law_1166 (by decide) ?_
  refine lv_iadd hx hb dL_law_1167 ?_
  refine lv_topi (fun x_1 ex_1 => ?_)
  obtain rfl : x_1 = 1 := ex_1.trans (by decide +kernel)
  refine va_sld hx hb hX hbl hbA hS (xin 1 6 rfl (by decide) (by decide)) dL_law_1168 ?_
  refine W.eq (g2 := F0 m 1169 ls [.int (xs 1), .ref (q 0)]) rfl ?_
  refine CWV (As := [.int (xs 1)]) (rest := []) (wc := [((q 0), .inr (11, [.ref (q 1), .ref (q 2), .ref (q 3), .ref (q 4), .ref (q 5), .ref (q 6), .ref (q 7), .ref (q 8), .ref (q 9), .ref (q 10), .ref (q 11), .int 0, .int 0, .int 0, .long 0, .long 1])), ((q 2), .inr (8, [.ref (q 20), .ref (q 21), .ref (q 22)])), ((q 20), .inr (5, [.ref (q 23), .ref (q 24), .ref (q 25), .int 0, .int 0, .int 0, .int 0])), ((q 21), .inr (0, [.ref (q 26), .ref (q 27), .ref (q 28), .ref (q 29), .int 0, .int 0]))]) (wr := [((q 200), .inr (12, [.ref (q 201), .ref (q 202), .int 0, .long 0, .long 1, .ref (q 203), .ref (q 204), .ref (q 205), .ref (q 206), .ref (q 207), .int 0, .int 0, .int 0, .int 0, .int 0, .int 0, .int (-1), .int (-1), .int 0, .int 0, .int 0, .ref (q 208), .int 0, .int 0, .ref (q 209), .ref (q 210), .ref (q 211), .ref (q 212), .ref (q 213), .int 0, .int 0, .ref (q 214), .ref (q 215), .ref (q 216), .int 0, .int 0])), ((q 201), .inl (k 1, 5340, .inl at0))]) hx hb hml hown hts hKK hP hD hS hA (p_span l D k q (xs 1)) ci_X11_span qm_L_114 ⟨Nat.le_of_ble_eq_true rfl, Nat.le_of_ble_eq_true rfl⟩ ⟨Nat.le_of_ble_eq_true rfl, Nat.le_of_ble_eq_true rfl⟩ [0, 11, 12, 16] [66, 67] rfl rfl rfl rfl rfl (by decide) 0 rfl rfl rfl hl.1 rfl (Nat.le_of_ble_eq_true rfl) dL_law_1169 (fun u_2 H locs hφ hP hD hS => ?_)
  have hP : va_P D vwCl [((q 200), .inr (12, [.ref (q 201), .ref (q 202), .int 0, .long 0, .long 1, .ref (q 203), .ref (q 204), .ref (q 205), .ref (q 206), .ref (q 207), .int 0, .int 0, .int 0, .int 0, .int 0, .int 0, .int (-1), .int (-1), .int 0, .int 0, .int 0, .ref (q 208), .int 0, .int 0, .ref (q 209), .ref (q 210), .ref (q 211), .ref (q 212), .ref (q 213), .int 0, .int 0, .ref (q 214), .ref (q 215), .ref (q 216), .int 0, .int 0])), ((q 201), .inl (k 1, 5340, .inl at0))] H := hP
  have hD : va_D A [((q 200), .inr (12, [.ref (q 201), .ref (q 202), .int 0, .long 0, .long 1, .ref (q 203), .ref (q 204), .ref (q 205), .ref (q 206), .ref (q 207), .int 0, .int 0, .int 0, .int 0, .int 0, .int 0, .int (-1), .int (-1), .int 0, .int 0, .int 0, .ref (q 208), .int 0, .int 0, .ref (q 209), .ref (q 210), .ref (q 211), .ref (q 212), .ref (q 213), .int 0, .int 0, .ref (q 214), .ref (q 215), .ref (q 216), .int 0, .int 0])), ((q 201), .inl (k 1, 5340, .inl at0))] := hD
  refine W.eq (g2 := F0 m 1172 ls [.int (inA (xs 1) 500)]) rfl ?_
  refine lv_aload_n hx hb dL_law_1172 rfl (lv_at hl 1 rfl) ?_
  refine lv_aload_n hx hb dL_law_1173 rfl (lv_at hl 3 rfl) ?_
  refine lv_iload_n hx hb dL_law_1174 rfl (lv_at hl 0 rfl) ?_
  refine lv_iconst (v := 1) hx hb dL_law_1175 (by decide) ?_
  refine lv_iadd hx hb dL_law_1176 ?_
  refine lv_topi (fun x_3 ex_3 => ?_)
  obtain rfl : x_3 = 1 := ex_3.trans (by decide +kernel)
  refine va_sld hx hb hX hbl hbA hS (xin 1 6 rfl (by decide) (by decide)) dL_law_1177 ?_
  refine W.eq (g2 := F0 m 1178 ls [.int (xs 1), .ref (q 200), .int (inA (xs 1) 500)]) rfl ?_
  refine CWV (As := [.int (xs 1)]) (rest := [.int (inA (xs 1) 500)]) (wc := [((q 200), .inr (12, [.ref (q 201), .ref (q 202), .int 0, .long 0, .long 1, .ref (q 203), .ref (q 204), .ref (q 205), .ref (q 206), .ref (q 207), .int 0, .int 0, .int 0, .int 0, .int 0, .int 0, .int (-1), .int (-1), .int 0, .int 0, .int 0, .ref (q 208), .int 0, .int 0, .ref (q 209), .ref (q 210), .ref (q 211), .ref (q 212), .ref (q 213), .int 0, .int 0, .ref (q 214), .ref (q 215), .ref (q 216), .int 0, .int 0])), ((q 201), .inl (k 1, 5340, .inl at0))]) (wr := []) hx hb hml hown hts hKK hP hD hS hA (r_span l D k q (xs 1)) ci_X12_span qm_L_117 ⟨Nat.le_of_ble_eq_true rfl, Nat.le_of_ble_eq_true rfl⟩ ⟨Nat.le_of_ble_eq_true rfl, Nat.le_of_ble_eq_true rfl⟩ [0, 1] [] rfl rfl rfl rfl rfl (by decide) 0 rfl rfl rfl hl.1 rfl (Nat.le_of_ble_eq_true rfl) dL_law_1178 (fun u_4 H locs hφ hP hD hS => ?_)
  have hP : va_P D vwCl [] H := hP
  have hD : va_D A [] := hD
  refine W.eq (g2 := F0 m 1181 ls [.int (inA (xs 1) 500), .int (inA (xs 1) 500)]) rfl ?_
  refine lv_icmp_eq (tgt := 2849) hx hb dL_law_1181 (by decide) (fun _ => ?_) (fun c => absurd rfl c)
  exact law_done hx hb hr hlocks hX hbl hbA hAf hS (by decide) (by decide) hl
set_option maxHeartbeats 4000000 in
set_option maxRecDepth 100000 in
theorem law_c23 {p : Program} {e : Env} {s : State} {m : MethodId} {below : List Frame} {meth : Method} {c : Code} (l : Launch) {b : Nat} {xs : Nat → Int32} {A : Nat → Prop} {D : va_G} {k : Nat → ClassId} {q : Nat → Nat} {H : Heap} {locs : List Loc} {ls : Array Slot} (C : LC p s m meth c b xs A D k q H locs ls) : W p l e room_1 s m #[Value.ref b] below meth c H locs 123 16705 (lw_Z below #[Value.ref b] s) (F0 m 1186 ls []) := by
  obtain ⟨hx, hb, hr, hml, hown, hts, hKK, hX, hbl, hbA, hA, hAf, hlocks, hP, hD, hS, hl⟩ := C
  refine lv_aload_n hx hb dL_law_1186 rfl (lv_at hl 2 rfl) ?_
  refine lv_aload_n hx hb dL_law_1187 rfl (lv_at hl 3 rfl) ?_
  refine lv_iload_n hx hb dL_law_1188 rfl (lv_at hl 0 rfl) ?_
  refine lv_iconst (v := 1) hx hb dL_law_1189 (by decide) ?_
  refine lv_iadd hx hb dL_law_1190 ?_
  refine lv_topi (fun x_1 ex_1 => ?_)
  obtain rfl : x_1 = 1 := ex_1.trans (by decide +kernel)
  refine va_sld hx hb hX hbl hbA hS (xin 1 6 rfl (by decide) (by decide)) dL_law_1191 ?_
  refine W.eq (g2 := F0 m 1192 ls [.int (xs 1), .ref (q 0)]) rfl ?_
  refine lv_aload_n hx hb dL_law_1192 rfl (lv_at hl 3 rfl) ?_
  refine lv_iload_n hx hb dL_law_1193 rfl (lv_at hl 0 rfl) ?_
  refine lv_iconst (v := 2) hx hb dL_law_1194 (by decide) ?_
  refine lv_iadd hx hb dL_law_1195 ?_
  refine lv_topi (fun x_2 ex_2 => ?_)
  obtain rfl : x_2 = 2 := ex_2.trans (by decide +kernel)
  refine va_sld hx hb hX hbl hbA hS (xin 2 6 rfl (by decide) (by decide)) dL_law_1196 ?_
  refine W.eq (g2 := F0 m 1197 ls [.int (xs 2), .int (xs 1), .ref (q 0)]) rfl ?_
  refine lv_aload_n hx hb dL_law_1197 rfl (lv_at hl 3 rfl) ?_
  refine lv_iload_n hx hb dL_law_1198 rfl (lv_at hl 0 rfl) ?_
  refine lv_iconst (v := 3) hx hb dL_law_1199 (by decide) ?_
  refine lv_iadd hx hb dL_law_1200 ?_
  refine lv_topi (fun x_3 ex_3 => ?_)
  obtain rfl : x_3 = 3 := ex_3.trans (by decide +kernel)
  refine va_sld hx hb hX hbl hbA hS (xin 3 6 rfl (by decide) (by decide)) dL_law_1201 ?_
  refine W.eq (g2 := F0 m 1202 ls [.int (xs 3), .int (xs 2), .int (xs 1), .ref (q 0)]) rfl ?_
  refine CWV (As := [.int (xs 1), .int (xs 2), .int (xs 3)]) (rest := []) (wc := [((q 0), .inr (11, [.ref (q 1), .ref (q 2), .ref (q 3), .ref (q 4), .ref (q 5), .ref (q 6), .ref (q 7), .ref (q 8), .ref (q 9), .ref (q 10), .ref (q 11), .int 0, .int 0, .int 0, .long 0, .long 1])), ((q 2), .inr (8, [.ref (q 20), .ref (q 21), .ref (q 22)])), ((q 20), .inr (5, [.ref (q 23), .ref (q 24), .ref (q 25), .int 0, .int 0, .int 0, .int 0])), ((q 21), .inr (0, [.ref (q 26), .ref (q 27), .ref (q 28), .ref (q 29), .int 0, .int 0]))]) (wr := [((q 200), .inr (12, [.ref (q 201), .ref (q 202), .int 0, .long 0, .long 1, .ref (q 203), .ref (q 204), .ref (q 205), .ref (q 206), .ref (q 207), .int 0, .int 0, .int 0, .int 0, .int 0, .int 0, .int (-1), .int (-1), .int 0, .int 0, .int 0, .ref (q 208), .int 0, .int 0, .ref (q 209), .ref (q 210), .ref (q 211), .ref (q 212), .ref (q 213), .int 0, .int 0, .ref (q 214), .ref (q 215), .ref (q 216), .int 0, .int 0])), ((q 201), .inl (k 1, 5340, .inl at0))]) hx hb hml hown hts hKK hP hD hS hA (p_stale l D k q (xs 1) (xs 2) (xs 3)) ci_X11_stale qm_L_118 ⟨Nat.le_of_ble_eq_true rfl, Nat.le_of_ble_eq_true rfl⟩ ⟨Nat.le_of_ble_eq_true rfl, Nat.le_of_ble_eq_true rfl⟩ [0, 11, 12, 16] [66, 67] rfl rfl rfl rfl rfl (by decide) 0 rfl rfl rfl hl.1 rfl (Nat.le_of_ble_eq_true rfl) dL_law_1202 (fun u_4 H locs hφ hP hD hS => ?_)
  have hP : va_P D vwCl [((q 200), .inr (12, [.ref (q 201), .ref (q 202), .int 0, .long 0, .long 1, .ref (q 203), .ref (q 204), .ref (q 205), .ref (q 206), .ref (q 207), .int 0, .int 0, .int 0, .int 0, .int 0, .int 0, .int (-1), .int (-1), .int 0, .int 0, .int 0, .ref (q 208), .int 0, .int 0, .ref (q 209), .ref (q 210), .ref (q 211), .ref (q 212), .ref (q 213), .int 0, .int 0, .ref (q 214), .ref (q 215), .ref (q 216), .int 0, .int 0])), ((q 201), .inl (k 1, 5340, .inl at0))] H := hP
  have hD : va_D A [((q 200), .inr (12, [.ref (q 201), .ref (q 202), .int 0, .long 0, .long 1, .ref (q 203), .ref (q 204), .ref (q 205), .ref (q 206), .ref (q 207), .int 0, .int 0, .int 0, .int 0, .int 0, .int 0, .int (-1), .int (-1), .int 0, .int 0, .int 0, .ref (q 208), .int 0, .int 0, .ref (q 209), .ref (q 210), .ref (q 211), .ref (q 212), .ref (q 213), .int 0, .int 0, .ref (q 214), .ref (q 215), .ref (q 216), .int 0, .int 0])), ((q 201), .inl (k 1, 5340, .inl at0))] := hD
  refine W.eq (g2 := F0 m 1205 ls [.int (-1)]) rfl ?_
  refine lv_aload_n hx hb dL_law_1205 rfl (lv_at hl 1 rfl) ?_
  refine lv_aload_n hx hb dL_law_1206 rfl (lv_at hl 3 rfl) ?_
  refine lv_iload_n hx hb dL_law_1207 rfl (lv_at hl 0 rfl) ?_
  refine lv_iconst (v := 1) hx hb dL_law_1208 (by decide) ?_
  refine lv_iadd hx hb dL_law_1209 ?_
  refine lv_topi (fun x_5 ex_5 => ?_)
  obtain rfl : x_5 = 1 := ex_5.trans (by decide +kernel)
  refine va_sld hx hb hX hbl hbA hS (xin 1 6 rfl (by decide) (by decide)) dL_law_1210 ?_
  refine W.eq (g2 := F0 m 1211 ls [.int (xs 1), .ref (q 200), .int (-1)]) rfl ?_
  refine lv_aload_n hx hb dL_law_1211 rfl (lv_at hl 3 rfl) ?_
  refine lv_iload_n hx hb dL_law_1212 rfl (lv_at hl 0 rfl) ?_
  refine lv_iconst (v := 2) hx hb dL_law_1213 (by decide) ?_
  refine lv_iadd hx hb dL_law_1214 ?_
  refine lv_topi (fun x_6 ex_6 => ?_)
  obtain rfl : x_6 = 2 := ex_6.trans (by decide +kernel)
  refine va_sld hx hb hX hbl hbA hS (xin 2 6 rfl (by decide) (by decide)) dL_law_1215 ?_
  refine W.eq (g2 := F0 m 1216 ls [.int (xs 2), .int (xs 1), .ref (q 200), .int (-1)]) rfl ?_
  refine lv_aload_n hx hb dL_law_1216 rfl (lv_at hl 3 rfl) ?_
  refine lv_iload_n hx hb dL_law_1217 rfl (lv_at hl 0 rfl) ?_
  refine lv_iconst (v := 3) hx hb dL_law_1218 (by decide) ?_
  refine lv_iadd hx hb dL_law_1219 ?_
  refine lv_topi (fun x_7 ex_7 => ?_)
  obtain rfl : x_7 = 3 := ex_7.trans (by decide +kernel)
  refine va_sld hx hb hX hbl hbA hS (xin 3 6 rfl (by decide) (by decide)) dL_law_1220 ?_
  refine W.eq (g2 := F0 m 1221 ls [.int (xs 3), .int (xs 2), .int (xs 1), .ref (q 200), .int (-1)]) rfl ?_
  refine CWV (As := [.int (xs 1), .int (xs 2), .int (xs 3)]) (rest := [.int (-1)]) (wc := [((q 200), .inr (12, [.ref (q 201), .ref (q 202), .int 0, .long 0, .long 1, .ref (q 203), .ref (q 204), .ref (q 205), .ref (q 206), .ref (q 207), .int 0, .int 0, .int 0, .int 0, .int 0, .int 0, .int (-1), .int (-1), .int 0, .int 0, .int 0, .ref (q 208), .int 0, .int 0, .ref (q 209), .ref (q 210), .ref (q 211), .ref (q 212), .ref (q 213), .int 0, .int 0, .ref (q 214), .ref (q 215), .ref (q 216), .int 0, .int 0])), ((q 201), .inl (k 1, 5340, .inl at0))]) (wr := []) hx hb hml hown hts hKK hP hD hS hA (r_stale l D k q (xs 1) (xs 2) (xs 3)) ci_X12_stale qm_L_121 ⟨Nat.le_of_ble_eq_true rfl, Nat.le_of_ble_eq_true rfl⟩ ⟨Nat.le_of_ble_eq_true rfl, Nat.le_of_ble_eq_true rfl⟩ [0, 1] [] rfl rfl rfl rfl rfl (by decide) 0 rfl rfl rfl hl.1 rfl (Nat.le_of_ble_eq_true rfl) dL_law_1221 (fun u_8 H locs hφ hP hD hS => ?_)
  have hP : va_P D vwCl [] H := hP
  have hD : va_D A [] := hD
  refine W.eq (g2 := F0 m 1224 ls [.int (-1), .int (-1)]) rfl ?_
  refine lv_icmp_eq (tgt := 2849) hx hb dL_law_1224 (by decide) (fun _ => ?_) (fun c => absurd (by decide) c)
  exact law_done hx hb hr hlocks hX hbl hbA hAf hS (by decide) (by decide) hl
set_option maxHeartbeats 4000000 in
set_option maxRecDepth 100000 in
theorem law_c24 {p : Program} {e : Env} {s : State} {m : MethodId} {below : List Frame} {meth : Method} {c : Code} (l : Launch) {b : Nat} {xs : Nat → Int32} {A : Nat → Prop} {D : va_G} {k : Nat → ClassId} {q : Nat → Nat} {H : Heap} {locs : List Loc} {ls : Array Slot} (C : LC p s m meth c b xs A D k q H locs ls) : W p l e room_1 s m #[Value.ref b] below meth c H locs 123 16705 (lw_Z below #[Value.ref b] s) (F0 m 1229 ls []) := by
  obtain ⟨hx, hb, hr, hml, hown, hts, hKK, hX, hbl, hbA, hA, hAf, hlocks, hP, hD, hS, hl⟩ := C
  refine lv_aload_n hx hb dL_law_1229 rfl (lv_at hl 2 rfl) ?_
  refine lv_aload_n hx hb dL_law_1230 rfl (lv_at hl 3 rfl) ?_
  refine lv_iload_n hx hb dL_law_1231 rfl (lv_at hl 0 rfl) ?_
  refine lv_iconst (v := 1) hx hb dL_law_1232 (by decide) ?_
  refine lv_iadd hx hb dL_law_1233 ?_
  refine lv_topi (fun x_1 ex_1 => ?_)
  obtain rfl : x_1 = 1 := ex_1.trans (by decide +kernel)
  refine va_sld hx hb hX hbl hbA hS (xin 1 6 rfl (by decide) (by decide)) dL_law_1234 ?_
  refine W.eq (g2 := F0 m 1235 ls [.int (xs 1), .ref (q 0)]) rfl ?_
  refine CWV (As := [.int (xs 1)]) (rest := []) (wc := [((q 0), .inr (11, [.ref (q 1), .ref (q 2), .ref (q 3), .ref (q 4), .ref (q 5), .ref (q 6), .ref (q 7), .ref (q 8), .ref (q 9), .ref (q 10), .ref (q 11), .int 0, .int 0, .int 0, .long 0, .long 1])), ((q 2), .inr (8, [.ref (q 20), .ref (q 21), .ref (q 22)])), ((q 20), .inr (5, [.ref (q 23), .ref (q 24), .ref (q 25), .int 0, .int 0, .int 0, .int 0])), ((q 21), .inr (0, [.ref (q 26), .ref (q 27), .ref (q 28), .ref (q 29), .int 0, .int 0]))]) (wr := [((q 200), .inr (12, [.ref (q 201), .ref (q 202), .int 0, .long 0, .long 1, .ref (q 203), .ref (q 204), .ref (q 205), .ref (q 206), .ref (q 207), .int 0, .int 0, .int 0, .int 0, .int 0, .int 0, .int (-1), .int (-1), .int 0, .int 0, .int 0, .ref (q 208), .int 0, .int 0, .ref (q 209), .ref (q 210), .ref (q 211), .ref (q 212), .ref (q 213), .int 0, .int 0, .ref (q 214), .ref (q 215), .ref (q 216), .int 0, .int 0])), ((q 201), .inl (k 1, 5340, .inl at0))]) hx hb hml hown hts hKK hP hD hS hA (p_blind l D k q (xs 1)) ci_X11_blind qm_L_122 ⟨Nat.le_of_ble_eq_true rfl, Nat.le_of_ble_eq_true rfl⟩ ⟨Nat.le_of_ble_eq_true rfl, Nat.le_of_ble_eq_true rfl⟩ [0, 11, 12, 16] [66, 67] rfl rfl rfl rfl rfl (by decide) 0 rfl rfl rfl hl.1 rfl (Nat.le_of_ble_eq_true rfl) dL_law_1235 (fun u_2 H locs hφ hP hD hS => ?_)
  have hP : va_P D vwCl [((q 200), .inr (12, [.ref (q 201), .ref (q 202), .int 0, .long 0, .long 1, .ref (q 203), .ref (q 204), .ref (q 205), .ref (q 206), .ref (q 207), .int 0, .int 0, .int 0, .int 0, .int 0, .int 0, .int (-1), .int (-1), .int 0, .int 0, .int 0, .ref (q 208), .int 0, .int 0, .ref (q 209), .ref (q 210), .ref (q 211), .ref (q 212), .ref (q 213), .int 0, .int 0, .ref (q 214), .ref (q 215), .ref (q 216), .int 0, .int 0])), ((q 201), .inl (k 1, 5340, .inl at0))] H := hP
  have hD : va_D A [((q 200), .inr (12, [.ref (q 201), .ref (q 202), .int 0, .long 0, .long 1, .ref (q 203), .ref (q 204), .ref (q 205), .ref (q 206), .ref (q 207), .int 0, .int 0, .int 0, .int 0, .int 0, .int 0, .int (-1), .int (-1), .int 0, .int 0, .int 0, .ref (q 208), .int 0, .int 0, .ref (q 209), .ref (q 210), .ref (q 211), .ref (q 212), .ref (q 213), .int 0, .int 0, .ref (q 214), .ref (q 215), .ref (q 216), .int 0, .int 0])), ((q 201), .inl (k 1, 5340, .inl at0))] := hD
  refine W.eq (g2 := F0 m 1238 ls [.int (-1)]) rfl ?_
  refine lv_aload_n hx hb dL_law_1238 rfl (lv_at hl 1 rfl) ?_
  refine lv_aload_n hx hb dL_law_1239 rfl (lv_at hl 3 rfl) ?_
  refine lv_iload_n hx hb dL_law_1240 rfl (lv_at hl 0 rfl) ?_
  refine lv_iconst (v := 1) hx hb dL_law_1241 (by decide) ?_
  refine lv_iadd hx hb dL_law_1242 ?_
  refine lv_topi (fun x_3 ex_3 => ?_)
  obtain rfl : x_3 = 1 := ex_3.trans (by decide +kernel)
  refine va_sld hx hb hX hbl hbA hS (xin 1 6 rfl (by decide) (by decide)) dL_law_1243 ?_
  refine W.eq (g2 := F0 m 1244 ls [.int (xs 1), .ref (q 200), .int (-1)]) rfl ?_
  refine CWV (As := [.int (xs 1)]) (rest := [.int (-1)]) (wc := [((q 200), .inr (12, [.ref (q 201), .ref (q 202), .int 0, .long 0, .long 1, .ref (q 203), .ref (q 204), .ref (q 205), .ref (q 206), .ref (q 207), .int 0, .int 0, .int 0, .int 0, .int 0, .int 0, .int (-1), .int (-1), .int 0, .int 0, .int 0, .ref (q 208), .int 0, .int 0, .ref (q 209), .ref (q 210), .ref (q 211), .ref (q 212), .ref (q 213), .int 0, .int 0, .ref (q 214), .ref (q 215), .ref (q 216), .int 0, .int 0])), ((q 201), .inl (k 1, 5340, .inl at0))]) (wr := []) hx hb hml hown hts hKK hP hD hS hA (r_blind l D k q (xs 1)) ci_X12_blind qm_L_125 ⟨Nat.le_of_ble_eq_true rfl, Nat.le_of_ble_eq_true rfl⟩ ⟨Nat.le_of_ble_eq_true rfl, Nat.le_of_ble_eq_true rfl⟩ [0, 1] [] rfl rfl rfl rfl rfl (by decide) 0 rfl rfl rfl hl.1 rfl (Nat.le_of_ble_eq_true rfl) dL_law_1244 (fun u_4 H locs hφ hP hD hS => ?_)
  have hP : va_P D vwCl [] H := hP
  have hD : va_D A [] := hD
  refine W.eq (g2 := F0 m 1247 ls [.int (-1), .int (-1)]) rfl ?_
  refine lv_icmp_eq (tgt := 2849) hx hb dL_law_1247 (by decide) (fun _ => ?_) (fun c => absurd (by decide) c)
  exact law_done hx hb hr hlocks hX hbl hbA hAf hS (by decide) (by decide) hl
