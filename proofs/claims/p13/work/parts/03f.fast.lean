section
def gw : List Cond := lw_tbl.filter goodWord
theorem gw_of {w : Cond} (h : w ∈ lw_tbl) (g : goodWord w = true) : w ∈ gw := List.mem_filter.mpr ⟨h, g⟩
theorem gw_good {w : Cond} (h : w ∈ gw) : (w.onTables && w.keeps) = true ∨ ∃ ty, w = .arrayClass ty := good_of_word (List.mem_filter.mp h).2
theorem gd_in {c1 : Cond} (h : c1 ∈ gw) : GoodIn gw (c1 :: gw) := fun w hw => (List.mem_cons.mp hw).elim (fun e => by rw [e]; exact ⟨h, gw_good h⟩) (fun h2 => ⟨h2, gw_good h2⟩)
theorem tb0 {w : Cond} (h : w ∈ k2_sels lw_privs) (g : goodWord w = true) : w ∈ gw := gw_of (List.mem_append_left _ h) g
theorem tbt {w : Cond} (h : w ∈ tables_1) (g : goodWord w = true) : w ∈ gw := gw_of (List.mem_append_right _ h) g
theorem tb1 {w : Cond} (h : w ∈ tables_1_1) : w ∈ tables_1 := List.mem_append_left _ h
theorem tb2 {w : Cond} (h : w ∈ tables_1_2) : w ∈ tables_1 := List.mem_append_right _ (List.mem_append_left _ h)
theorem tb3 {w : Cond} (h : w ∈ tables_1_3) : w ∈ tables_1 := List.mem_append_right _ (List.mem_append_right _ (List.mem_append_left _ h))
theorem tb4 {w : Cond} (h : w ∈ tables_1_4) : w ∈ tables_1 := List.mem_append_right _ (List.mem_append_right _ (List.mem_append_right _ (List.mem_append_left _ h)))
theorem tb5 {w : Cond} (h : w ∈ tables_1_5) : w ∈ tables_1 := List.mem_append_right _ (List.mem_append_right _ (List.mem_append_right _ (List.mem_append_right _ (List.mem_append_left _ h))))
theorem tb6 {w : Cond} (h : w ∈ tables_1_6) : w ∈ tables_1 := List.mem_append_right _ (List.mem_append_right _ (List.mem_append_right _ (List.mem_append_right _ (List.mem_append_right _ (List.mem_append_left _ h)))))
theorem tb7 {w : Cond} (h : w ∈ tables_1_7) : w ∈ tables_1 := List.mem_append_right _ (List.mem_append_right _ (List.mem_append_right _ (List.mem_append_right _ (List.mem_append_right _ (List.mem_append_right _ (List.mem_append_left _ h))))))
theorem tb8 {w : Cond} (h : w ∈ tables_1_8) : w ∈ tables_1 := List.mem_append_right _ (List.mem_append_right _ (List.mem_append_right _ (List.mem_append_right _ (List.mem_append_right _ (List.mem_append_right _ (List.mem_append_right _ (List.mem_append_left _ h)))))))
theorem tb9 {w : Cond} (h : w ∈ tables_1_9) : w ∈ tables_1 := List.mem_append_right _ (List.mem_append_right _ (List.mem_append_right _ (List.mem_append_right _ (List.mem_append_right _ (List.mem_append_right _ (List.mem_append_right _ (List.mem_append_right _ h)))))))
def TY (k : Nat → ClassId) : List (ClassId × FieldType) := [(k 0, .byte), (k 1, .int), (k 2, .long), (k 3, .object "SlowWorlds$Tray"), (k 4, .object "SlowWorlds$World")]
def nsA : Cond := .methodLinkNest RX11 17 yX8_init "SlowWorlds"
def nsB : Cond := .methodLinkNest RX11 98 yX7_init "SlowWorlds"
def nsC : Cond := .methodLinkNest RX8 11 yX5_init "SlowWorlds"
def nsD : Cond := .methodLinkNest RX8 20 yX0_init "SlowWorlds"
def nsE : Cond := .methodLinkNest RX8 27 yX9_init "SlowWorlds"
def KK (D : va_G) (k : Nat → ClassId) (U : State) : Prop := va_K D vwCl (TY k) U ∧ (va_Nw nsA U ∧ va_Nw nsB U ∧ va_Nw nsC U ∧ va_Nw nsD U ∧ va_Nw nsE U) ∧ va_AO "SlowWorlds$Tray" U ∧ va_AO "SlowWorlds$World" U
theorem KK.warm {D : va_G} {k : Nat → ClassId} {s U : State} (hW : s.WarmedH U.vm) (h : KK D k s) : KK D k U := by
  obtain ⟨h1, ⟨a1, a2, a3, a4, a5⟩, h3, h4⟩ := h
  exact ⟨va_K.moved hW.alike h1, ⟨va_Nw.warmM hW a1, va_Nw.warmM hW a2, va_Nw.warmM hW a3, va_Nw.warmM hW a4, va_Nw.warmM hW a5⟩, va_AO.moved hW.alike h3, va_AO.moved hW.alike h4⟩
theorem KK.call {D : va_G} {k : Nat → ClassId} {U : State} {g : JFrame} {mk : MethodId} {a : Array Value} (h : KK D k U) : KK D k (U.calling g mk a) := by
  obtain ⟨h1, ⟨a1, a2, a3, a4, a5⟩, h3, h4⟩ := h
  exact ⟨va_K.moved (u := U) (U := U.calling g mk a) (Vm.Alike.refl U.vm) h1, ⟨va_Nw.same rfl (u := U) rfl a1, va_Nw.same rfl (u := U) rfl a2, va_Nw.same rfl (u := U) rfl a3, va_Nw.same rfl (u := U) rfl a4, va_Nw.same rfl (u := U) rfl a5⟩, va_AO.moved (u := U) (Vm.Alike.refl U.vm) h3, va_AO.moved (u := U) (Vm.Alike.refl U.vm) h4⟩
/-- a room of j frames -/
def rj (j mc ms : Nat) : Room := { frames := j, cells := mc, slots := ms, locals := 40 * j }
def PR (D : va_G) (k : Nat → ClassId) (av : List Value) (pre : va_W) : Array Value → State → Prop := va_Pc av (fun U => va_P D vwCl pre U.heap ∧ KK D k U)
def PW (D : va_G) (k : Nat → ClassId) (av : List Value) (pre : va_W) (sz : Nat) : Array Value → State → Prop := va_Pc av (fun U => U.heap.size = sz ∧ va_P D vwCl pre U.heap ∧ KK D k U ∧ va_D (fun _ => True) pre)
def QW {σ : Type} (val : σ → Option Value) (φ : σ → Prop) (post : σ → va_W) (D : va_G) (A : Nat → Prop) : Array Value → State → Outcome → State → Prop := fun _ st oc t => (∃ u : σ, oc = .returned (val u) ∧ φ u ∧ va_P D vwCl (post u) t.heap ∧ va_D A (post u)) ∧ va_F A st t
/-- a method that reads alone and answers r -/
def RD (l : Launch) (y : MethodName) (cc : ByteArray) (maxL : Nat) (ret : Option FieldType) (j : Nat) (D : va_G) (k : Nat → ClassId) (av : List Value) (pre : va_W) (r : Int32) : Prop := Met l y (Cond.code y cc maxL ret :: gw) (rj j 0 0) (PR D k av pre) (QcRead r) 0 0 (fun _ => False)
/-- a method that may write in its world -/
def WD {σ : Type} (l : Launch) (y : MethodName) (cc : ByteArray) (maxL : Nat) (ret : Option FieldType) (j mc ms : Nat) (D : va_G) (k : Nat → ClassId) (av : List Value) (pre : va_W) (val : σ → Option Value) (φ : σ → Prop) (post : σ → va_W) : Prop := ∀ sz : Nat, Met l y (Cond.code y cc maxL ret :: gw) (rj j mc ms) (PW D k av pre sz) (QW val φ post D (va_A pre sz)) mc ms (va_A pre sz)
theorem PR.blind {D : va_G} {k : Nat → ClassId} {av : List Value} {pre : va_W} : FrameBlind (PR D k av pre) := fun _ _ _ _ q => ⟨q.1, q.2.1, q.2.2.call⟩
theorem PW.blind {D : va_G} {k : Nat → ClassId} {av : List Value} {pre : va_W} {sz : Nat} : FrameBlind (PW D k av pre sz) := fun _ _ _ _ q => ⟨q.1, q.2.1, q.2.2.1, q.2.2.2.1.call, q.2.2.2.2⟩
theorem MR {l : Launch} {y : MethodName} {cc : ByteArray} {maxL : Nat} {ret : Option FieldType} {j : Nat} {D : va_G} {k : Nat → ClassId} {av : List Value} {pre : va_W} {r : Int32} (hy : plainName y.cls = true) (hlen : (lg_sl av).length ≤ maxL)
    (body : ∀ (p : Program) (e : Env) (s : State) (m : MethodId) (below : List Frame) (meth : Method) (c : Code) (ls : Array Slot), p.tables.exec = Jvm.exec → c.code = cc → c.maxLocals = maxL → meth.sig.returnType = ret → meth.locks = false → (∀ w ∈ gw, w.before av.toArray s = true) → s.vm.findClass y.cls = some m.cls → KK D k s → va_P D vwCl pre s.heap → lv_has ls maxL (lv_args 0 av) → W p l e (rj j 0 0) s m av.toArray below meth c s.heap [] 0 0 (MQ below (QcRead r) av.toArray s 0 0 (fun _ => False)) (F0 m 0 ls [])) : RD l y cc maxL ret j D k av pre r := by
  refine Met.ofW (cc := cc) (maxL := maxL) (ret := ret) hy rfl ?_
  intro p e s m args below meth c s₁ B hml hv
  obtain ⟨rfl, hP, hK⟩ := hv
  have hl := lv_entry av (n := maxL) hlen
  rw [lg_entry_eq]
  generalize (lg_sl av ++ List.replicate (maxL - (lg_sl av).length) Slot.unset).toArray = ls at hl ⊢
  have hts := atoms_spec (ws := Cond.code y cc maxL ret :: gw) B.pre
  exact body p e s m below meth c ls B.exec B.bytes hml B.returns B.notSynchronized (fun w hw => hts w (List.mem_cons_of_mem _ hw)) (findClass_of_methodNamed B.named) hK hP hl
theorem MW {σ : Type} {l : Launch} {y : MethodName} {cc : ByteArray} {maxL : Nat} {ret : Option FieldType} {j mc ms : Nat} {D : va_G} {k : Nat → ClassId} {av : List Value} {pre : va_W} {val : σ → Option Value} {φ : σ → Prop} {post : σ → va_W} (hy : plainName y.cls = true) (hlen : (lg_sl av).length ≤ maxL)
    (body : ∀ (p : Program) (e : Env) (s : State) (m : MethodId) (below : List Frame) (meth : Method) (c : Code) (ls : Array Slot) (A : Nat → Prop), p.tables.exec = Jvm.exec → c.code = cc → c.maxLocals = maxL → meth.sig.returnType = ret → meth.locks = false → meth.name = y.name → (∀ w ∈ gw, w.before av.toArray s = true) → s.vm.findClass y.cls = some m.cls → KK D k s → va_P D vwCl pre s.heap → va_D A pre → va_S A s.heap s.heap [] → (∀ q : Nat, s.heap.size ≤ q → A q) → lv_has ls maxL (lv_args 0 av) → W p l e (rj j mc ms) s m av.toArray below meth c s.heap [] 0 0 (MQ below (QW val φ post D A) av.toArray s mc ms A) (F0 m 0 ls [])) : WD l y cc maxL ret j mc ms D k av pre val φ post := by
  intro sz
  refine Met.ofW (cc := cc) (maxL := maxL) (ret := ret) hy rfl ?_
  intro p e s m args below meth c s₁ B hml hv
  obtain ⟨rfl, hsz, hP, hK, hD0⟩ := hv
  subst hsz
  have hl := lv_entry av (n := maxL) hlen
  rw [lg_entry_eq]
  generalize (lg_sl av ++ List.replicate (maxL - (lg_sl av).length) Slot.unset).toArray = ls at hl ⊢
  have hts := atoms_spec (ws := Cond.code y cc maxL ret :: gw) B.pre
  exact body p e s m below meth c ls (va_A pre s.heap.size) B.exec B.bytes hml B.returns B.notSynchronized (name_of_methodNamed B.named B.method).1 (fun w hw => hts w (List.mem_cons_of_mem _ hw)) (findClass_of_methodNamed B.named) hK hP (hD0.self (sz := s.heap.size)) va_S.rf (fun q h => Or.inr h) hl
/-- what a callee is, by its words -/
def CIv (y : MethodName) (cc : ByteArray) (maxL : Nat) (ret : Option FieldType) (n : Nat) : Prop := Cond.code y cc maxL ret ∈ gw ∧ Cond.instanceMethod y ∈ gw ∧ Cond.selects y.cls y y ∈ gw ∧ Cond.initialized y.cls ∈ gw ∧ (y.cls ≠ "java/lang/invoke/MethodHandle" ∧ y.cls ≠ "java/lang/invoke/VarHandle" ∧ (parseMethodDescriptor y.desc).map (fun d => d.parameters.length) = some n)
def CIs (y : MethodName) (cc : ByteArray) (maxL : Nat) (ret : Option FieldType) (n : Nat) : Prop := Cond.code y cc maxL ret ∈ gw ∧ Cond.static y ∈ gw ∧ Cond.initialized y.cls ∈ gw ∧ (y.cls ≠ "java/lang/invoke/MethodHandle" ∧ y.cls ≠ "java/lang/invoke/VarHandle" ∧ (parseMethodDescriptor y.desc).map (fun d => d.parameters.length) = some n)
def CIi (y : MethodName) (cc : ByteArray) (maxL : Nat) (n : Nat) : Prop := Cond.code y cc maxL none ∈ gw ∧ Cond.instanceMethod y ∈ gw ∧ Cond.initialized y.cls ∈ gw ∧ y.name = "<init>" ∧ (y.cls ≠ "java/lang/invoke/MethodHandle" ∧ y.cls ≠ "java/lang/invoke/VarHandle" ∧ (parseMethodDescriptor y.desc).map (fun d => d.parameters.length) = some n)
section CR
variable {p : Program} {l : Launch} {e : Env} {R : Room} {s : State} {m : MethodId} {args : Array Value} {below : List Frame} {meth : Method} {c : Code} {H H0 : Heap} {locs : List Loc} {cells slots : Nat} {Q : State → Prop} {D : va_G} {k : Nat → ClassId} {A : Nat → Prop}
variable {y : MethodName} {bytes cc : ByteArray} {maxL nL n index j mc ms pc b ci N : Nat} {ret : Option FieldType} {own : String} {As rest st : List Value} {ls : Array Slot} {pre wc wr ws : va_W} {r : Int32} {T : u_T} {fs : List Value}
theorem cwVx (hts : ∀ w ∈ gw, w.before args s = true) (ci : CIv y bytes maxL ret n) (hlink : Cond.methodLink own index y ∈ gw) (hR : j + 1 ≤ R.frames ∧ 8 + (maxL + 11) + 40 * j ≤ R.locals) : CallW R s args own y.cls index y bytes maxL ret (Cond.code y bytes maxL ret :: gw) (rj j mc ms) mc ms n :=
  ⟨callB_of n hts (gd_in ci.1) rfl rfl rfl (hts _ ci.2.2.2.1) (hts _ hlink) ci.2.2.2.2 hR, hts _ ci.2.1, hts _ ci.2.2.1⟩
theorem cwSx (hts : ∀ w ∈ gw, w.before args s = true) (ci : CIs y bytes maxL ret n) (hlink : Cond.methodLink own index y ∈ gw) (hR : j + 1 ≤ R.frames ∧ 8 + (maxL + 11) + 40 * j ≤ R.locals) : CallB R s args own index y bytes maxL ret (Cond.code y bytes maxL ret :: gw) (rj j mc ms) mc ms n ∧ (Cond.static y).before args s = true :=
  ⟨callB_of n hts (gd_in ci.1) rfl rfl rfl (hts _ ci.2.2.1) (hts _ hlink) ci.2.2.2 hR, hts _ ci.2.1⟩
theorem cwIx (hts : ∀ w ∈ gw, w.before args s = true) (ci : CIi y bytes maxL n) (hlink : Cond.methodLink own index y ∈ gw) (hR : j + 1 ≤ R.frames ∧ 8 + (maxL + 11) + 40 * j ≤ R.locals) : CallB R s args own index y bytes maxL none (Cond.code y bytes maxL none :: gw) (rj j mc ms) mc ms n ∧ y.name = "<init>" ∧ (Cond.instanceMethod y).before args s = true :=
  ⟨callB_of n hts (gd_in ci.1) rfl rfl rfl (hts _ ci.2.2.1) (hts _ hlink) ci.2.2.2.2 hR, ci.2.2.2.1, hts _ ci.2.1⟩
theorem cwNx {host : String} (hts : ∀ w ∈ gw, w.before args s = true) (ci : CIi y bytes maxL n) (hlink : va_Nw (.methodLinkNest own index y host) s) (hR : j + 1 ≤ R.frames ∧ 8 + (maxL + 11) + 40 * j ≤ R.locals) : va_CN R s args own index y host bytes maxL none (Cond.code y bytes maxL none :: gw) (rj j mc ms) mc ms n ∧ y.name = "<init>" ∧ (Cond.instanceMethod y).before args s = true :=
  ⟨va_cnB n hts (gd_in ci.1) rfl rfl rfl hlink (hts _ ci.2.2.1) ci.2.2.2.2 hR, ci.2.2.2.1, hts _ ci.2.1⟩
/-- calls of methods that read alone -/
theorem CRV (hx : p.tables.exec = Jvm.exec) (hb : c.code = cc) (hml : c.maxLocals = nL) (hown : s.vm.findClass own = some m.cls) (hts : ∀ w ∈ gw, w.before args s = true) (hK : KK D k s) (hP : va_P D vwCl pre H) (hM : RD l y bytes maxL ret j D k (.ref b :: As) pre r) (cI : CIv y bytes maxL ret n) (hlink : Cond.methodLink own index y ∈ gw) (hR : j + 1 ≤ R.frames ∧ 8 + (maxL + 11) + 40 * j ≤ R.locals) (hce : cells ≤ R.cells ∧ slots ≤ R.slots)
    (q0 : Nat) (he : pre[q0]? = some (b, .inr (ci, fs))) (hc : vwCl[ci]? = some (y.cls, T, N)) (hn : As.length = n) (hsz : ls.size = nL) (hst : st = As.reverse ++ .ref b :: rest) (hW : (rest.map fun v => v.category).sum ≤ 8) (hdg : decode cc pc = .ok (.invokevirtual index, 3))
    (kk : W p l e R s m args below meth c H locs cells slots Q (F0 m (pc + 3) ls (.int r :: rest))) : W p l e R s m args below meth c H locs cells slots Q (F0 m pc ls st) :=
  W.callR (W.runV (As := As) (rest := rest) (b := b) ⟨hx, hb, hml, hown, hts⟩ hM (cwVx hts cI hlink hR) ⟨PR.blind, va_recv hK.1 hP hc he, fun U hU hW => ⟨rfl, by rw [hU]; exact hP, hK.warm hW⟩⟩ rfl hn hsz hst (lv_room hW) hdg hce) kk
theorem CRS (hx : p.tables.exec = Jvm.exec) (hb : c.code = cc) (hml : c.maxLocals = nL) (hown : s.vm.findClass own = some m.cls) (hts : ∀ w ∈ gw, w.before args s = true) (hK : KK D k s) (hP : va_P D vwCl pre H) (hM : RD l y bytes maxL ret j D k As pre r) (cI : CIs y bytes maxL ret n) (hlink : Cond.methodLink own index y ∈ gw) (hR : j + 1 ≤ R.frames ∧ 8 + (maxL + 11) + 40 * j ≤ R.locals) (hce : cells ≤ R.cells ∧ slots ≤ R.slots)
    (hn : As.length = n) (hsz : ls.size = nL) (hst : st = As.reverse ++ rest) (hW : (rest.map fun v => v.category).sum ≤ 8) (hdg : decode cc pc = .ok (.invokestatic index, 3))
    (kk : W p l e R s m args below meth c H locs cells slots Q (F0 m (pc + 3) ls (.int r :: rest))) : W p l e R s m args below meth c H locs cells slots Q (F0 m pc ls st) :=
  W.callR (W.runS (As := As) (rest := rest) ⟨hx, hb, hml, hown, hts⟩ hM (cwSx hts cI hlink hR) ⟨PR.blind, fun U hU hW => ⟨rfl, by rw [hU]; exact hP, hK.warm hW⟩⟩ rfl hn hsz hst (lv_room hW) hdg hce) kk
/-- behind a call of a method that writes -/
theorem callW {σ : Type} {val : σ → Option Value} {φ : σ → Prop} {post : σ → va_W} {A0 A1 : Nat → Prop} {a : Array Value} {free : Addr → Prop} (hr : va_Run p l e R s m args below meth c H locs cells slots mc ms (F0 m pc ls st) rest (QW val φ post D A1 a) free) (hS : va_S A0 H0 H locs) (hA : ∀ q, q < H.size → A1 q → A0 q) (hf : ∀ q, free q → A0 q)
    (kk : ∀ (u : σ) (H1 : Heap) (locs1 : List Loc), φ u → va_P D vwCl (post u) H1 → va_D A1 (post u) → (∀ q : Nat, q < H.size → ¬ A1 q → H1[q]? = H[q]?) → va_S A0 H0 H1 locs1 → W p l e R s m args below meth c H1 locs1 (cells + mc) (slots + ms) Q (F0 m (pc + 3) ls ((val u).toList ++ rest))) : W p l e R s m args below meth c H locs cells slots Q (F0 m pc ls st) := by
  intro T hT X
  obtain ⟨v, st₀, t, T', L, h0, X', hL, e1, e2, ⟨⟨u, hv, hp, hb, hd⟩, hz, hk⟩, st⟩ := hr T hT X
  cases hv
  rw [h0] at hz hk
  rw [← e1] at hb
  obtain ⟨t2, a1, b1⟩ := kk u T'.heap (locs ++ L) hp hb hd (fun q h1 h2 => by rw [e1]; exact hk q h1 h2)
    ⟨Nat.le_trans hS.1 (by rw [e1]; exact hz), fun q h1 h2 => by rw [e1, hk q (Nat.lt_of_lt_of_le h1 hS.1) (fun z => h2 (hA q (Nat.lt_of_lt_of_le h1 hS.1) z))]; exact hS.2.1 q h1 h2, fun q hq => by
      rcases List.mem_append.mp hq with h | h
      · exact hS.2.2 q h
      · exact hf _ (hL q h)⟩ T' rfl X'
  exact ⟨t2, st t2 a1, b1⟩
theorem CWV {σ : Type} {val : σ → Option Value} {φ : σ → Prop} {post : σ → va_W} (hx : p.tables.exec = Jvm.exec) (hb : c.code = cc) (hml : c.maxLocals = nL) (hown : s.vm.findClass own = some m.cls) (hts : ∀ w ∈ gw, w.before args s = true) (hK : KK D k s) (hP : va_P D vwCl ws H) (hD : va_D A ws) (hS : va_S A H0 H locs) (hA : ∀ q : Nat, H0.size ≤ q → A q) (hM : WD l y bytes maxL ret j mc ms D k (.ref b :: As) wc val φ post) (cI : CIv y bytes maxL ret n) (hlink : Cond.methodLink own index y ∈ gw) (hR : j + 1 ≤ R.frames ∧ 8 + (maxL + 11) + 40 * j ≤ R.locals) (hce : cells + mc ≤ R.cells ∧ slots + ms ≤ R.slots)
    (isC isR : List Nat) (hC : isC.map (fun i => ws[i]?) = wc.map some) (hC2 : isC.filterMap (fun i => ws[i]?) = wc) (hRr : isR.map (fun i => ws[i]?) = wr.map some) (hnC : va_nd isC = true) (hnR : va_nd isR = true) (hdis : ∀ i ∈ isR, i ∉ isC)
    (q0 : Nat) (he : wc[q0]? = some (b, .inr (ci, fs))) (hc : vwCl[ci]? = some (y.cls, T, N)) (hn : As.length = n) (hsz : ls.size = nL) (hst : st = As.reverse ++ .ref b :: rest) (hW : (rest.map fun v => v.category).sum ≤ 8) (hdg : decode cc pc = .ok (.invokevirtual index, 3))
    (kk : ∀ (u : σ) (H1 : Heap) (locs1 : List Loc), φ u → va_P D vwCl (wr ++ post u) H1 → va_D A (wr ++ post u) → va_S A H0 H1 locs1 → W p l e R s m args below meth c H1 locs1 (cells + mc) (slots + ms) Q (F0 m (pc + 3) ls ((val u).toList ++ rest))) : W p l e R s m args below meth c H locs cells slots Q (F0 m pc ls st) := by
  have hPc := hP.sub isC hC2
  have hDc := hD.sub isC hnC hC
  have hFc := va_free hD hS hA isC hC
  refine callW (va_runV (As := As) (rest := rest) (b := b) ⟨hx, hb, hml, hown, hts⟩ (hM H.size) (cwVx hts cI hlink hR) ⟨PW.blind, va_recv hK.1 hPc hc he, fun U hU hW => ⟨rfl, by rw [hU], by rw [hU]; exact hPc, hK.warm hW, hDc.weaken (fun _ _ _ _ => trivial)⟩⟩ rfl hn hsz hst (lv_room hW) hdg hce) hS (fun q _ h => hFc q h) hFc (fun u H1 locs1 hφ hP1 hD1 hk1 hS1 => ?_)
  obtain ⟨g1, g2⟩ := va_join hP hD isC isR hC hRr hnR hdis hk1 hFc hP1 hD1
  exact kk u H1 locs1 hφ g1 g2 hS1
theorem CWS {σ : Type} {val : σ → Option Value} {φ : σ → Prop} {post : σ → va_W} (hx : p.tables.exec = Jvm.exec) (hb : c.code = cc) (hml : c.maxLocals = nL) (hown : s.vm.findClass own = some m.cls) (hts : ∀ w ∈ gw, w.before args s = true) (hK : KK D k s) (hP : va_P D vwCl ws H) (hD : va_D A ws) (hS : va_S A H0 H locs) (hA : ∀ q : Nat, H0.size ≤ q → A q) (hM : WD l y bytes maxL ret j mc ms D k As wc val φ post) (cI : CIs y bytes maxL ret n) (hlink : Cond.methodLink own index y ∈ gw) (hR : j + 1 ≤ R.frames ∧ 8 + (maxL + 11) + 40 * j ≤ R.locals) (hce : cells + mc ≤ R.cells ∧ slots + ms ≤ R.slots)
    (isC isR : List Nat) (hC : isC.map (fun i => ws[i]?) = wc.map some) (hC2 : isC.filterMap (fun i => ws[i]?) = wc) (hRr : isR.map (fun i => ws[i]?) = wr.map some) (hnC : va_nd isC = true) (hnR : va_nd isR = true) (hdis : ∀ i ∈ isR, i ∉ isC)
    (hn : As.length = n) (hsz : ls.size = nL) (hst : st = As.reverse ++ rest) (hW : (rest.map fun v => v.category).sum ≤ 8) (hdg : decode cc pc = .ok (.invokestatic index, 3))
    (kk : ∀ (u : σ) (H1 : Heap) (locs1 : List Loc), φ u → va_P D vwCl (wr ++ post u) H1 → va_D A (wr ++ post u) → va_S A H0 H1 locs1 → W p l e R s m args below meth c H1 locs1 (cells + mc) (slots + ms) Q (F0 m (pc + 3) ls ((val u).toList ++ rest))) : W p l e R s m args below meth c H locs cells slots Q (F0 m pc ls st) := by
  have hPc := hP.sub isC hC2
  have hDc := hD.sub isC hnC hC
  have hFc := va_free hD hS hA isC hC
  refine callW (va_runS (As := As) (rest := rest) ⟨hx, hb, hml, hown, hts⟩ (hM H.size) (cwSx hts cI hlink hR) ⟨PW.blind, fun U hU hW => ⟨rfl, by rw [hU], by rw [hU]; exact hPc, hK.warm hW, hDc.weaken (fun _ _ _ _ => trivial)⟩⟩ rfl hn hsz hst (lv_room hW) hdg hce) hS (fun q _ h => hFc q h) hFc (fun u H1 locs1 hφ hP1 hD1 hk1 hS1 => ?_)
  obtain ⟨g1, g2⟩ := va_join hP hD isC isR hC hRr hnR hdis hk1 hFc hP1 hD1
  exact kk u H1 locs1 hφ g1 g2 hS1
theorem CWI {σ : Type} {val : σ → Option Value} {φ : σ → Prop} {post : σ → va_W} (hx : p.tables.exec = Jvm.exec) (hb : c.code = cc) (hml : c.maxLocals = nL) (hown : s.vm.findClass own = some m.cls) (hts : ∀ w ∈ gw, w.before args s = true) (hK : KK D k s) (hP : va_P D vwCl ws H) (hD : va_D A ws) (hS : va_S A H0 H locs) (hA : ∀ q : Nat, H0.size ≤ q → A q) (hM : WD l y bytes maxL none j mc ms D k (.ref b :: As) wc val φ post) (cI : CIi y bytes maxL n) (hlink : Cond.methodLink own index y ∈ gw) (hR : j + 1 ≤ R.frames ∧ 8 + (maxL + 11) + 40 * j ≤ R.locals) (hce : cells + mc ≤ R.cells ∧ slots + ms ≤ R.slots)
    (isC isR : List Nat) (hC : isC.map (fun i => ws[i]?) = wc.map some) (hC2 : isC.filterMap (fun i => ws[i]?) = wc) (hRr : isR.map (fun i => ws[i]?) = wr.map some) (hnC : va_nd isC = true) (hnR : va_nd isR = true) (hdis : ∀ i ∈ isR, i ∉ isC)
    (hn : As.length = n) (hsz : ls.size = nL) (hst : st = As.reverse ++ .ref b :: rest) (hW : (rest.map fun v => v.category).sum ≤ 8) (hdg : decode cc pc = .ok (.invokespecial index, 3))
    (kk : ∀ (u : σ) (H1 : Heap) (locs1 : List Loc), φ u → va_P D vwCl (wr ++ post u) H1 → va_D A (wr ++ post u) → va_S A H0 H1 locs1 → W p l e R s m args below meth c H1 locs1 (cells + mc) (slots + ms) Q (F0 m (pc + 3) ls ((val u).toList ++ rest))) : W p l e R s m args below meth c H locs cells slots Q (F0 m pc ls st) := by
  have hPc := hP.sub isC hC2
  have hDc := hD.sub isC hnC hC
  have hFc := va_free hD hS hA isC hC
  refine callW (va_runI (As := As) (rest := rest) (b := b) ⟨hx, hb, hml, hown, hts⟩ (hM H.size) (cwIx hts cI hlink hR) ⟨PW.blind, fun U hU hW => ⟨rfl, by rw [hU], by rw [hU]; exact hPc, hK.warm hW, hDc.weaken (fun _ _ _ _ => trivial)⟩⟩ rfl hn hsz hst (lv_room hW) hdg hce) hS (fun q _ h => hFc q h) hFc (fun u H1 locs1 hφ hP1 hD1 hk1 hS1 => ?_)
  obtain ⟨g1, g2⟩ := va_join hP hD isC isR hC hRr hnR hdis hk1 hFc hP1 hD1
  exact kk u H1 locs1 hφ g1 g2 hS1
theorem CWN {σ : Type} {val : σ → Option Value} {φ : σ → Prop} {post : σ → va_W} {host : String} (hx : p.tables.exec = Jvm.exec) (hb : c.code = cc) (hml : c.maxLocals = nL) (hown : s.vm.findClass own = some m.cls) (hts : ∀ w ∈ gw, w.before args s = true) (hK : KK D k s) (hP : va_P D vwCl ws H) (hD : va_D A ws) (hS : va_S A H0 H locs) (hA : ∀ q : Nat, H0.size ≤ q → A q) (hM : WD l y bytes maxL none j mc ms D k (.ref b :: As) wc val φ post) (cI : CIi y bytes maxL n) (hlink : va_Nw (.methodLinkNest own index y host) s) (hR : j + 1 ≤ R.frames ∧ 8 + (maxL + 11) + 40 * j ≤ R.locals) (hce : cells + mc ≤ R.cells ∧ slots + ms ≤ R.slots)
    (isC isR : List Nat) (hC : isC.map (fun i => ws[i]?) = wc.map some) (hC2 : isC.filterMap (fun i => ws[i]?) = wc) (hRr : isR.map (fun i => ws[i]?) = wr.map some) (hnC : va_nd isC = true) (hnR : va_nd isR = true) (hdis : ∀ i ∈ isR, i ∉ isC)
    (hn : As.length = n) (hsz : ls.size = nL) (hst : st = As.reverse ++ .ref b :: rest) (hW : (rest.map fun v => v.category).sum ≤ 8) (hdg : decode cc pc = .ok (.invokespecial index, 3))
    (kk : ∀ (u : σ) (H1 : Heap) (locs1 : List Loc), φ u → va_P D vwCl (wr ++ post u) H1 → va_D A (wr ++ post u) → va_S A H0 H1 locs1 → W p l e R s m args below meth c H1 locs1 (cells + mc) (slots + ms) Q (F0 m (pc + 3) ls ((val u).toList ++ rest))) : W p l e R s m args below meth c H locs cells slots Q (F0 m pc ls st) := by
  have hPc := hP.sub isC hC2
  have hDc := hD.sub isC hnC hC
  have hFc := va_free hD hS hA isC hC
  refine callW (va_runIN (As := As) (rest := rest) (b := b) ⟨hx, hb, hml, hown, hts⟩ (hM H.size) (cwNx hts cI hlink hR) ⟨PW.blind, fun U hU hW => ⟨rfl, by rw [hU], by rw [hU]; exact hPc, hK.warm hW, hDc.weaken (fun _ _ _ _ => trivial)⟩⟩ rfl hn hsz hst (lv_room hW) hdg hce) hS (fun q _ h => hFc q h) hFc (fun u H1 locs1 hφ hP1 hD1 hk1 hS1 => ?_)
  obtain ⟨g1, g2⟩ := va_join hP hD isC isR hC hRr hnR hdis hk1 hFc hP1 hD1
  exact kk u H1 locs1 hφ g1 g2 hS1
end CR
section EN
variable {p : Program} {l : Launch} {e : Env} {R : Room} {s : State} {m : MethodId} {args : Array Value} {below : List Frame} {meth : Method} {c : Code} {H : Heap} {locs : List Loc} {cells slots pc : Nat} {D : va_G} {A : Nat → Prop} {cc : ByteArray} {ls : Array Slot} {σ : Type} {val : σ → Option Value} {φ : σ → Prop} {post : σ → va_W}
theorem EWi {v : Int32} (hx : p.tables.exec = Jvm.exec) (hb : c.code = cc) (hr : meth.sig.returnType = some .int) (hlocks : meth.locks = false) (hS : va_S A s.heap H locs) (u : σ) (hv : val u = some (.int v)) (hφ : φ u) (hP : va_P D vwCl (post u) H) (hD : va_D A (post u)) (hdg : decode cc pc = .ok (.ireturn, 1)) : W p l e R s m args below meth c H locs cells slots (MQ below (QW val φ post D A) args s cells slots A) (F0 m pc ls [.int v]) :=
  W.iret hx hb hr (fun t ht _ => ⟨⟨u, by rw [hv], hφ, by rw [ht]; exact hP, hD⟩, hS.F ht⟩) hS.2.2 hdg
theorem EWz {v : Int32} (hx : p.tables.exec = Jvm.exec) (hb : c.code = cc) (hr : meth.sig.returnType = some .boolean) (hlocks : meth.locks = false) (hS : va_S A s.heap H locs) (u : σ) (hv : val u = some (.int v)) (hn : narrow .boolean (.int v) = .int v) (hφ : φ u) (hP : va_P D vwCl (post u) H) (hD : va_D A (post u)) (hdg : decode cc pc = .ok (.ireturn, 1)) : W p l e R s m args below meth c H locs cells slots (MQ below (QW val φ post D A) args s cells slots A) (F0 m pc ls [.int v]) :=
  W.zret hx hb hr hn (fun t ht _ => ⟨⟨u, by rw [hv], hφ, by rw [ht]; exact hP, hD⟩, hS.F ht⟩) hS.2.2 hdg
theorem EWl {v : Int64} (hx : p.tables.exec = Jvm.exec) (hb : c.code = cc) (hr : meth.sig.returnType = some .long) (hlocks : meth.locks = false) (hS : va_S A s.heap H locs) (u : σ) (hv : val u = some (.long v)) (hφ : φ u) (hP : va_P D vwCl (post u) H) (hD : va_D A (post u)) (hdg : decode cc pc = .ok (.lreturn, 1)) : W p l e R s m args below meth c H locs cells slots (MQ below (QW val φ post D A) args s cells slots A) (F0 m pc ls [.long v]) :=
  W.lret hx hb hr (fun t ht _ => ⟨⟨u, by rw [hv], hφ, by rw [ht]; exact hP, hD⟩, hS.F ht⟩) hS.2.2 hdg
theorem EWv (hx : p.tables.exec = Jvm.exec) (hb : c.code = cc) (hr : meth.sig.returnType = none) (hlocks : meth.locks = false) (hS : va_S A s.heap H locs) (u : σ) (hv : val u = none) (hφ : φ u) (hP : va_P D vwCl (post u) H) (hD : va_D A (post u)) (hdg : decode cc pc = .ok (.return_, 1)) : W p l e R s m args below meth c H locs cells slots (MQ below (QW val φ post D A) args s cells slots A) (F0 m pc ls []) :=
  W.vret hx hb hr (fun t ht _ => ⟨⟨u, by rw [hv], hφ, by rw [ht]; exact hP, hD⟩, hS.F ht⟩) hS.2.2 hdg
theorem ERi {v r : Int32} (hx : p.tables.exec = Jvm.exec) (hb : c.code = cc) (hr : meth.sig.returnType = some .int) (hlocks : meth.locks = false) (hv : v = r) (hdg : decode cc pc = .ok (.ireturn, 1)) : W p l e R s m args below meth c s.heap [] cells slots (MQ below (QcRead r) args s cells slots (fun _ => False)) (F0 m pc ls [.int v]) :=
  W.iret hx hb hr (fun t ht _ => ⟨by rw [hv], ht⟩) (fun q h => by cases h) hdg
theorem ERz {v r : Int32} (hx : p.tables.exec = Jvm.exec) (hb : c.code = cc) (hr : meth.sig.returnType = some .boolean) (hlocks : meth.locks = false) (hn : narrow .boolean (.int v) = .int v) (hv : v = r) (hdg : decode cc pc = .ok (.ireturn, 1)) : W p l e R s m args below meth c s.heap [] cells slots (MQ below (QcRead r) args s cells slots (fun _ => False)) (F0 m pc ls [.int v]) :=
  W.zret hx hb hr hn (fun t ht _ => ⟨by rw [hv], ht⟩) (fun q h => by cases h) hdg
end EN
theorem xin {i : Int32} (n N : Nat) (hi : nI n = i) (h : n < N) (hN : N < 2 ^ 31) : vp_in i N := by rw [← hi]; exact vp_in_nI h hN
theorem nil_P {D : va_G} {H : Heap} : va_P D vwCl [] H := fun k q h => by simp at h
theorem nil_D {A : Nat → Prop} : va_D A [] := ⟨fun i j p q h => by simp at h, fun k q h => by simp at h⟩
def iZ (z : Int) : Int32 := Int32.ofInt z
def gz (f : Nat → Int32) (e : Int) : Int := (f e.toNat).toInt
def rgI (f : Nat → Int32) (lo hi : Int) (n : Int) : Prop := ∀ e : Int, 0 ≤ e → e < n → lo ≤ gz f e ∧ gz f e ≤ hi
theorem iZ_add (a b : Int) : iZ a + iZ b = iZ (a + b) := (Int32.ofInt_add a b).symm
theorem iZ_sub (a b : Int) : iZ a - iZ b = iZ (a - b) := (Int32.ofInt_sub a b).symm
theorem iZ_mul (a b : Int) : iZ a * iZ b = iZ (a * b) := (Int32.ofInt_mul a b).symm
theorem iZ_neg (a : Int) : -iZ a = iZ (-a) := (Int32.ofInt_neg a).symm
theorem iZ_ti {z : Int} (h : -2147483648 ≤ z ∧ z < 2147483648) : (iZ z).toInt = z := by
  have hb : z.bmod (2 ^ 32) = z := by rw [Int.bmod_eq_of_le (by omega) (by omega)]
  show (Int32.ofInt z).toInt = z
  rw [Int32.toInt_ofInt]
  exact hb
theorem i32_rg (x : Int32) : -2147483648 ≤ x.toInt ∧ x.toInt < 2147483648 := by
  have h1 := Int32.le_toInt x
  have h2 := Int32.toInt_lt x
  omega
theorem i32_z (x : Int32) : ∃ z : Int, x = iZ z ∧ -2147483648 ≤ z ∧ z < 2147483648 := ⟨x.toInt, (Int32.ofInt_toInt x).symm, (i32_rg x).1, (i32_rg x).2⟩
theorem zlt {x y : Int32} {a b : Int} (hx : x = iZ a) (hy : y = iZ b) (ha : -2147483648 ≤ a ∧ a < 2147483648) (hb : -2147483648 ≤ b ∧ b < 2147483648) : x < y ↔ a < b := by
  rw [hx, hy, Int32.lt_iff_toInt_lt, iZ_ti ha, iZ_ti hb]
theorem zle {x y : Int32} {a b : Int} (hx : x = iZ a) (hy : y = iZ b) (ha : -2147483648 ≤ a ∧ a < 2147483648) (hb : -2147483648 ≤ b ∧ b < 2147483648) : x ≤ y ↔ a ≤ b := by
  rw [hx, hy, Int32.le_iff_toInt_le, iZ_ti ha, iZ_ti hb]
theorem zeq {x y : Int32} {a b : Int} (hx : x = iZ a) (hy : y = iZ b) (ha : -2147483648 ≤ a ∧ a < 2147483648) (hb : -2147483648 ≤ b ∧ b < 2147483648) : x = y ↔ a = b := by
  rw [hx, hy, ← Int32.toInt_inj, iZ_ti ha, iZ_ti hb]
theorem zne {x : Int32} {b : Int} (hx : x = iZ b) (hb : -2147483648 ≤ b ∧ b < 2147483648) : x = 0 ↔ b = 0 := zeq hx rfl hb ⟨by omega, by omega⟩
theorem zcl {e : Int} (h : 0 ≤ e ∧ e < 2147483648) : (iZ e).toNatClampNeg = e.toNat := by
  show (iZ e).toInt.toNat = e.toNat
  rw [iZ_ti ⟨by omega, by omega⟩]
theorem zin {e : Int} {n : Nat} (h : 0 ≤ e ∧ e < (n : Int)) (hn : n < 2 ^ 31) : vp_in (iZ e) n := by
  have hn2 : (n : Int) < 2147483648 := by have : n < 2147483648 := hn; omega
  exact vp_in_iff.mpr (by rw [iZ_ti ⟨by omega, by omega⟩]; exact h)
theorem gz_eq {f : Nat → Int32} {e : Int} (h : 0 ≤ e ∧ e < 2147483648) : f (iZ e).toNatClampNeg = iZ (gz f e) := by
  rw [zcl h]
  exact (Int32.ofInt_toInt _).symm
theorem gz_rg (f : Nat → Int32) (e : Int) : -2147483648 ≤ gz f e ∧ gz f e < 2147483648 := i32_rg _
theorem gz_up {f g : Nat → Int32} {e v j : Int} (hg : g = upd f (iZ e).toNatClampNeg (iZ v)) (he : 0 ≤ e ∧ e < 2147483648) (hv : -2147483648 ≤ v ∧ v < 2147483648) (hj : 0 ≤ j) : gz g j = if j = e then v else gz f j := by
  unfold gz
  rw [hg, zcl he]
  unfold upd
  by_cases h : j = e
  · rw [if_pos h, if_pos (by omega), iZ_ti hv]
  · rw [if_neg h, if_neg (by omega)]
theorem rg_upd {f g : Nat → Int32} {lo hi n e v : Int} (h : rgI f lo hi n) (hg : g = upd f (iZ e).toNatClampNeg (iZ v)) (h0 : 0 ≤ e ∧ e < 2147483648) (hv : lo ≤ v ∧ v ≤ hi) (hr : -2147483648 ≤ v ∧ v < 2147483648) : rgI g lo hi n := by
  intro j hj hn
  rw [gz_up hg h0 hr hj]
  by_cases he : j = e
  · rw [if_pos he]; exact hv
  · rw [if_neg he]; exact h j hj hn
theorem iZ_nat (n : Nat) : iZ (n : Int) = nI n := by
  show Int32.ofInt (n : Int) = Int32.ofNat n
  exact Int32.ofInt_eq_ofNat
theorem iZ_div {a b : Int} (ha : 0 ≤ a) (ha2 : a < 2147483648) (hb : 0 < b) (hb2 : b < 2147483648) : iZ a / iZ b = iZ (a / b) := by
  obtain ⟨n, rfl⟩ := Int.eq_ofNat_of_zero_le ha
  obtain ⟨d, rfl⟩ := Int.eq_ofNat_of_zero_le (Int.le_of_lt hb)
  have h1 : n < 2 ^ 31 := by have : (n : Int) < 2147483648 := ha2; omega
  have h2 : d < 2 ^ 31 := by have : (d : Int) < 2147483648 := hb2; omega
  have h3 : 0 < d := by omega
  rw [iZ_nat, iZ_nat, pk_div h1 h3 h2, ← iZ_nat]
  rfl
theorem iZ_rem {a b : Int} (ha : 0 ≤ a) (ha2 : a < 2147483648) (hb : 0 < b) (hb2 : b < 2147483648) : iZ a - iZ a / iZ b * iZ b = iZ (a % b) := by
  obtain ⟨n, rfl⟩ := Int.eq_ofNat_of_zero_le ha
  obtain ⟨d, rfl⟩ := Int.eq_ofNat_of_zero_le (Int.le_of_lt hb)
  have h1 : n < 2 ^ 31 := by have : (n : Int) < 2147483648 := ha2; omega
  have h2 : d < 2 ^ 31 := by have : (d : Int) < 2147483648 := hb2; omega
  have h3 : 0 < d := by omega
  rw [iZ_nat, iZ_nat, pk_rem h1 h3 h2, ← iZ_nat]
  rfl
theorem zmax {a b : Int} (ha : -2147483648 ≤ a ∧ a < 2147483648) (hb : -2147483648 ≤ b ∧ b < 2147483648) : (if iZ a < iZ b then iZ b else iZ a) = iZ (max a b) := by
  by_cases h : a < b
  · rw [if_pos ((zlt rfl rfl ha hb).mpr h), Int.max_eq_right (by omega)]
  · rw [if_neg (mt (zlt rfl rfl ha hb).mp h), Int.max_eq_left (by omega)]
theorem zmin {a b : Int} (ha : -2147483648 ≤ a ∧ a < 2147483648) (hb : -2147483648 ≤ b ∧ b < 2147483648) : (if iZ b < iZ a then iZ b else iZ a) = iZ (min a b) := by
  by_cases h : b < a
  · rw [if_pos ((zlt rfl rfl hb ha).mpr h), Int.min_eq_right (by omega)]
  · rw [if_neg (mt (zlt rfl rfl hb ha).mp h), Int.min_eq_left (by omega)]
def zab (a : Int) : Int := if 0 ≤ a then a else 0 - a
theorem zab_c (a : Int) : (0 ≤ a ∧ zab a = a) ∨ (a < 0 ∧ zab a = -a) := by
  unfold zab
  split <;> omega
theorem zabs {a : Int} (ha : -2147483648 ≤ a ∧ a < 2147483648) : (if 0 ≤ iZ a then iZ a else 0 - iZ a) = iZ (zab a) := by
  unfold zab
  by_cases h : 0 ≤ a
  · rw [if_pos ((zle (x := 0) (a := 0) rfl rfl ⟨by omega, by omega⟩ ha).mpr h), if_pos h]
  · rw [if_neg (mt (zle (x := 0) (a := 0) rfl rfl ⟨by omega, by omega⟩ ha).mp h), if_neg h]
    exact iZ_sub 0 a
theorem mul_b {a b A B : Int} (h1 : 0 ≤ a) (h2 : a ≤ A) (h3 : 0 ≤ b) (h4 : b ≤ B) : 0 ≤ a * b ∧ a * b ≤ A * B := ⟨Int.mul_nonneg h1 h3, Int.mul_le_mul h2 h4 h3 (by omega)⟩
/-- an answer with a property, nothing changes -/
def QcP (φ : Int → Prop) : Array Value → State → Outcome → State → Prop := fun _ st o t => ∃ z : Int, o = .returned (some (.int (iZ z))) ∧ φ z ∧ t.heap = st.heap
def RP (l : Launch) (y : MethodName) (cc : ByteArray) (maxL : Nat) (ret : Option FieldType) (j : Nat) (D : va_G) (k : Nat → ClassId) (av : List Value) (pre : va_W) (φ : Int → Prop) : Prop := Met l y (Cond.code y cc maxL ret :: gw) (rj j 0 0) (PR D k av pre) (QcP φ) 0 0 (fun _ => False)
theorem MRP {l : Launch} {y : MethodName} {cc : ByteArray} {maxL : Nat} {ret : Option FieldType} {j : Nat} {D : va_G} {k : Nat → ClassId} {av : List Value} {pre : va_W} {φ : Int → Prop} (hy : plainName y.cls = true) (hlen : (lg_sl av).length ≤ maxL)
    (body : ∀ (p : Program) (e : Env) (s : State) (m : MethodId) (below : List Frame) (meth : Method) (c : Code) (ls : Array Slot), p.tables.exec = Jvm.exec → c.code = cc → c.maxLocals = maxL → meth.sig.returnType = ret → meth.locks = false → (∀ w ∈ gw, w.before av.toArray s = true) → s.vm.findClass y.cls = some m.cls → KK D k s → va_P D vwCl pre s.heap → lv_has ls maxL (lv_args 0 av) → W p l e (rj j 0 0) s m av.toArray below meth c s.heap [] 0 0 (MQ below (QcP φ) av.toArray s 0 0 (fun _ => False)) (F0 m 0 ls [])) : RP l y cc maxL ret j D k av pre φ := by
  refine Met.ofW (cc := cc) (maxL := maxL) (ret := ret) hy rfl ?_
  intro p e s m args below meth c s₁ B hml hv
  obtain ⟨rfl, hP, hK⟩ := hv
  have hl := lv_entry av (n := maxL) hlen
  rw [lg_entry_eq]
  generalize (lg_sl av ++ List.replicate (maxL - (lg_sl av).length) Slot.unset).toArray = ls at hl ⊢
  have hts := atoms_spec (ws := Cond.code y cc maxL ret :: gw) B.pre
  exact body p e s m below meth c ls B.exec B.bytes hml B.returns B.notSynchronized (fun w hw => hts w (List.mem_cons_of_mem _ hw)) (findClass_of_methodNamed B.named) hK hP hl
section CP
variable {p : Program} {l : Launch} {e : Env} {R : Room} {s : State} {m : MethodId} {args : Array Value} {below : List Frame} {meth : Method} {c : Code} {H : Heap} {locs : List Loc} {cells slots : Nat} {Q : State → Prop} {D : va_G} {k : Nat → ClassId}
variable {y : MethodName} {bytes cc : ByteArray} {maxL nL n index j pc b ci N : Nat} {ret : Option FieldType} {own : String} {As rest st : List Value} {ls : Array Slot} {pre : va_W} {T : u_T} {fs : List Value} {φ : Int → Prop}
theorem callP {a : Array Value} {g : JFrame} (hr : CallRun p l e R s m args below meth c H locs cells slots 0 0 g rest (QcP φ a) (fun _ => False)) (kk : ∀ z : Int, φ z → W p l e R s m args below meth c H locs cells slots Q { g with pc := g.pc + 3, stack := .int (iZ z) :: rest }) : W p l e R s m args below meth c H locs cells slots Q g := by
  intro T hT X
  obtain ⟨v, st₀, t, T', L, h0, X', hL, e1, ⟨z, hv, hz, hh⟩, st⟩ := hr T hT X
  cases hv
  obtain ⟨t2, a1, b1⟩ := kk z hz T' (by rw [e1, hh, h0]) (Stand.forget X' (fun q h => (hL q h).elim))
  exact ⟨t2, st t2 a1, b1⟩
theorem CPV (hx : p.tables.exec = Jvm.exec) (hb : c.code = cc) (hml : c.maxLocals = nL) (hown : s.vm.findClass own = some m.cls) (hts : ∀ w ∈ gw, w.before args s = true) (hK : KK D k s) (hP : va_P D vwCl pre H) (hM : RP l y bytes maxL ret j D k (.ref b :: As) pre φ) (cI : CIv y bytes maxL ret n) (hlink : Cond.methodLink own index y ∈ gw) (hR : j + 1 ≤ R.frames ∧ 8 + (maxL + 11) + 40 * j ≤ R.locals) (hce : cells ≤ R.cells ∧ slots ≤ R.slots)
    (q0 : Nat) (he : pre[q0]? = some (b, .inr (ci, fs))) (hc : vwCl[ci]? = some (y.cls, T, N)) (hn : As.length = n) (hsz : ls.size = nL) (hst : st = As.reverse ++ .ref b :: rest) (hW : (rest.map fun v => v.category).sum ≤ 8) (hdg : decode cc pc = .ok (.invokevirtual index, 3))
    (kk : ∀ z : Int, φ z → W p l e R s m args below meth c H locs cells slots Q (F0 m (pc + 3) ls (.int (iZ z) :: rest))) : W p l e R s m args below meth c H locs cells slots Q (F0 m pc ls st) :=
  callP (W.runV (As := As) (rest := rest) (b := b) ⟨hx, hb, hml, hown, hts⟩ hM (cwVx hts cI hlink hR) ⟨PR.blind, va_recv hK.1 hP hc he, fun U hU hW => ⟨rfl, by rw [hU]; exact hP, hK.warm hW⟩⟩ rfl hn hsz hst (lv_room hW) hdg hce) kk
theorem CPS (hx : p.tables.exec = Jvm.exec) (hb : c.code = cc) (hml : c.maxLocals = nL) (hown : s.vm.findClass own = some m.cls) (hts : ∀ w ∈ gw, w.before args s = true) (hK : KK D k s) (hP : va_P D vwCl pre H) (hM : RP l y bytes maxL ret j D k As pre φ) (cI : CIs y bytes maxL ret n) (hlink : Cond.methodLink own index y ∈ gw) (hR : j + 1 ≤ R.frames ∧ 8 + (maxL + 11) + 40 * j ≤ R.locals) (hce : cells ≤ R.cells ∧ slots ≤ R.slots)
    (hn : As.length = n) (hsz : ls.size = nL) (hst : st = As.reverse ++ rest) (hW : (rest.map fun v => v.category).sum ≤ 8) (hdg : decode cc pc = .ok (.invokestatic index, 3))
    (kk : ∀ z : Int, φ z → W p l e R s m args below meth c H locs cells slots Q (F0 m (pc + 3) ls (.int (iZ z) :: rest))) : W p l e R s m args below meth c H locs cells slots Q (F0 m pc ls st) :=
  callP (W.runS (As := As) (rest := rest) ⟨hx, hb, hml, hown, hts⟩ hM (cwSx hts cI hlink hR) ⟨PR.blind, fun U hU hW => ⟨rfl, by rw [hU]; exact hP, hK.warm hW⟩⟩ rfl hn hsz hst (lv_room hW) hdg hce) kk
end CP
section EP
variable {p : Program} {l : Launch} {e : Env} {R : Room} {s : State} {m : MethodId} {args : Array Value} {below : List Frame} {meth : Method} {c : Code} {cells slots pc : Nat} {cc : ByteArray} {ls : Array Slot} {φ : Int → Prop}
theorem EPi {z : Int} (hx : p.tables.exec = Jvm.exec) (hb : c.code = cc) (hr : meth.sig.returnType = some .int) (hlocks : meth.locks = false) (hφ : φ z) (hdg : decode cc pc = .ok (.ireturn, 1)) : W p l e R s m args below meth c s.heap [] cells slots (MQ below (QcP φ) args s cells slots (fun _ => False)) (F0 m pc ls [.int (iZ z)]) :=
  W.iret hx hb hr (fun t ht _ => ⟨z, rfl, hφ, ht⟩) (fun q h => by cases h) hdg
theorem EPz {z : Int} (hx : p.tables.exec = Jvm.exec) (hb : c.code = cc) (hr : meth.sig.returnType = some .boolean) (hlocks : meth.locks = false) (hn : z = 0 ∨ z = 1) (hφ : φ z) (hdg : decode cc pc = .ok (.ireturn, 1)) : W p l e R s m args below meth c s.heap [] cells slots (MQ below (QcP φ) args s cells slots (fun _ => False)) (F0 m pc ls [.int (iZ z)]) :=
  W.zret hx hb hr (by rcases hn with rfl | rfl <;> rfl) (fun t ht _ => ⟨z, rfl, hφ, ht⟩) (fun q h => by cases h) hdg
end EP
theorem zdiv_b {a b : Int} (ha : 0 ≤ a) (hb : 0 < b) : 0 ≤ a / b ∧ a / b ≤ a := ⟨Int.ediv_nonneg ha (Int.le_of_lt hb), Int.ediv_le_self b ha⟩
end

section
theorem fq_of {cc : ByteArray} {pc n : Nat} {i : Instr} (h : (Jvm.ClassFile.Decoder.instr pc) cc pc = .ok (i, n)) : decode cc pc = .ok (i, n - pc) := by
  unfold decode
  have h' : Jvm.ClassFile.Reader.runAt (Jvm.ClassFile.Decoder.instr pc) cc pc = .ok (i, n) := h
  rw [h']
  rfl
theorem fq_c {cc : ByteArray} {p : Nat} {b : UInt8} (h : cc.data.toList[p]? = some b) : ∃ hs : p < cc.size, cc[p]'hs = b := by
  obtain ⟨hs, e⟩ := List.getElem?_eq_some_iff.mp h
  exact ⟨hs, e⟩
theorem fq_u1 {cc : ByteArray} {p n : Nat} {b : UInt8} (h : cc.data.toList[p]? = some b) (hn : b.toNat = n) : (Jvm.ClassFile.Reader.u1 : Jvm.ClassFile.Decoder Nat) cc p = .ok (n, p + 1) := by
  obtain ⟨hs, hb⟩ := fq_c h
  subst hn
  subst hb
  show (dite (p < cc.size) (fun h : p < cc.size => ((do set (p + 1); pure (cc[p]'h).toNat) : Jvm.ClassFile.Decoder Nat)) (fun _ => throw (Jvm.ClassFile.HasTruncated.truncated p))) cc p = _
  rw [dif_pos hs]
  rfl
theorem fq_b {α β : Type} {r : Jvm.ClassFile.Decoder α} {f : α → Jvm.ClassFile.Decoder β} {cc : ByteArray} {p q : Nat} {a : α} {x : Except Jvm.ClassFile.DecodeError (β × Nat)} (h : r cc p = .ok (a, q)) (k : f a cc q = x) : (r >>= f) cc p = x := by
  show Except.bind (r cc p) (fun y => f y.1 cc y.2) = x
  rw [h]
  exact k
theorem fq_m {α β : Type} {r : Jvm.ClassFile.Decoder α} {f : α → β} {cc : ByteArray} {p q : Nat} {a : α} (h : r cc p = .ok (a, q)) : (f <$> r) cc p = .ok (f a, q) := by
  show Except.bind (r cc p) (fun y => .ok (f y.1, y.2)) = _
  rw [h]
  rfl
theorem fq_u2 {cc : ByteArray} {p : Nat} {x y : UInt8} (h0 : cc.data.toList[p]? = some x) (h1 : cc.data.toList[p + 1]? = some y) : (Jvm.ClassFile.Reader.u2 : Jvm.ClassFile.Decoder Nat) cc p = .ok (x.toNat * 256 + y.toNat, p + 2) := by
  unfold Jvm.ClassFile.Reader.u2
  exact fq_b (fq_u1 h0 rfl) (fq_b (fq_u1 h1 rfl) rfl)
theorem fq_l {l s : List UInt8} {o n p j : Nat} {b : UInt8} (hs : (l.drop o).take n = s) (e : p = o + j) (h : s[j]? = some b) : l[p]? = some b := by
  rw [e, ← List.getElem?_drop]
  rw [← hs, List.getElem?_take] at h
  split at h
  · exact h
  · exact absurd h (by simp)
theorem fq1_29 {cc : ByteArray} {pc : Nat} (h : cc.data.toList[pc]? = some (29 : UInt8)) : decode cc pc = .ok (.iload_n 3, 1) := by
  have e0 : (Jvm.ClassFile.Decoder.instr pc) cc pc = .ok (.iload_n 3, pc + 1) := by
    unfold Jvm.ClassFile.Decoder.instr
    exact fq_b (fq_u1 (n := 29) h rfl) rfl
  have e := fq_of e0
  rw [Nat.add_sub_cancel_left] at e
  exact e
theorem fq1_42 {cc : ByteArray} {pc : Nat} (h : cc.data.toList[pc]? = some (42 : UInt8)) : decode cc pc = .ok (.aload_n 0, 1) := by
  have e0 : (Jvm.ClassFile.Decoder.instr pc) cc pc = .ok (.aload_n 0, pc + 1) := by
    unfold Jvm.ClassFile.Decoder.instr
    exact fq_b (fq_u1 (n := 42) h rfl) rfl
  have e := fq_of e0
  rw [Nat.add_sub_cancel_left] at e
  exact e
theorem fq1_43 {cc : ByteArray} {pc : Nat} (h : cc.data.toList[pc]? = some (43 : UInt8)) : decode cc pc = .ok (.aload_n 1, 1) := by
  have e0 : (Jvm.ClassFile.Decoder.instr pc) cc pc = .ok (.aload_n 1, pc + 1) := by
    unfold Jvm.ClassFile.Decoder.instr
    exact fq_b (fq_u1 (n := 43) h rfl) rfl
  have e := fq_of e0
  rw [Nat.add_sub_cancel_left] at e
  exact e
theorem fq1_44 {cc : ByteArray} {pc : Nat} (h : cc.data.toList[pc]? = some (44 : UInt8)) : decode cc pc = .ok (.aload_n 2, 1) := by
  have e0 : (Jvm.ClassFile.Decoder.instr pc) cc pc = .ok (.aload_n 2, pc + 1) := by
    unfold Jvm.ClassFile.Decoder.instr
    exact fq_b (fq_u1 (n := 44) h rfl) rfl
  have e := fq_of e0
  rw [Nat.add_sub_cancel_left] at e
  exact e
theorem fq1_46 {cc : ByteArray} {pc : Nat} (h : cc.data.toList[pc]? = some (46 : UInt8)) : decode cc pc = .ok (.iaload, 1) := by
  have e0 : (Jvm.ClassFile.Decoder.instr pc) cc pc = .ok (.iaload, pc + 1) := by
    unfold Jvm.ClassFile.Decoder.instr
    exact fq_b (fq_u1 (n := 46) h rfl) rfl
  have e := fq_of e0
  rw [Nat.add_sub_cancel_left] at e
  exact e
theorem fq1_96 {cc : ByteArray} {pc : Nat} (h : cc.data.toList[pc]? = some (96 : UInt8)) : decode cc pc = .ok (.iadd, 1) := by
  have e0 : (Jvm.ClassFile.Decoder.instr pc) cc pc = .ok (.iadd, pc + 1) := by
    unfold Jvm.ClassFile.Decoder.instr
    exact fq_b (fq_u1 (n := 96) h rfl) rfl
  have e := fq_of e0
  rw [Nat.add_sub_cancel_left] at e
  exact e
theorem fq1_87 {cc : ByteArray} {pc : Nat} (h : cc.data.toList[pc]? = some (87 : UInt8)) : decode cc pc = .ok (.pop, 1) := by
  have e0 : (Jvm.ClassFile.Decoder.instr pc) cc pc = .ok (.pop, pc + 1) := by
    unfold Jvm.ClassFile.Decoder.instr
    exact fq_b (fq_u1 (n := 87) h rfl) rfl
  have e := fq_of e0
  rw [Nat.add_sub_cancel_left] at e
  exact e
theorem fq1_88 {cc : ByteArray} {pc : Nat} (h : cc.data.toList[pc]? = some (88 : UInt8)) : decode cc pc = .ok (.pop2, 1) := by
  have e0 : (Jvm.ClassFile.Decoder.instr pc) cc pc = .ok (.pop2, pc + 1) := by
    unfold Jvm.ClassFile.Decoder.instr
    exact fq_b (fq_u1 (n := 88) h rfl) rfl
  have e := fq_of e0
  rw [Nat.add_sub_cancel_left] at e
  exact e
theorem fq1_3 {cc : ByteArray} {pc : Nat} (h : cc.data.toList[pc]? = some (3 : UInt8)) : decode cc pc = .ok (.iconst 0, 1) := by
  have e0 : (Jvm.ClassFile.Decoder.instr pc) cc pc = .ok (.iconst 0, pc + 1) := by
    unfold Jvm.ClassFile.Decoder.instr
    exact fq_b (fq_u1 (n := 3) h rfl) rfl
  have e := fq_of e0
  rw [Nat.add_sub_cancel_left] at e
  exact e
theorem fq1_4 {cc : ByteArray} {pc : Nat} (h : cc.data.toList[pc]? = some (4 : UInt8)) : decode cc pc = .ok (.iconst 1, 1) := by
  have e0 : (Jvm.ClassFile.Decoder.instr pc) cc pc = .ok (.iconst 1, pc + 1) := by
    unfold Jvm.ClassFile.Decoder.instr
    exact fq_b (fq_u1 (n := 4) h rfl) rfl
  have e := fq_of e0
  rw [Nat.add_sub_cancel_left] at e
  exact e
theorem fq1_5 {cc : ByteArray} {pc : Nat} (h : cc.data.toList[pc]? = some (5 : UInt8)) : decode cc pc = .ok (.iconst 2, 1) := by
  have e0 : (Jvm.ClassFile.Decoder.instr pc) cc pc = .ok (.iconst 2, pc + 1) := by
    unfold Jvm.ClassFile.Decoder.instr
    exact fq_b (fq_u1 (n := 5) h rfl) rfl
  have e := fq_of e0
  rw [Nat.add_sub_cancel_left] at e
  exact e
theorem fq1_6 {cc : ByteArray} {pc : Nat} (h : cc.data.toList[pc]? = some (6 : UInt8)) : decode cc pc = .ok (.iconst 3, 1) := by
  have e0 : (Jvm.ClassFile.Decoder.instr pc) cc pc = .ok (.iconst 3, pc + 1) := by
    unfold Jvm.ClassFile.Decoder.instr
    exact fq_b (fq_u1 (n := 6) h rfl) rfl
  have e := fq_of e0
  rw [Nat.add_sub_cancel_left] at e
  exact e
theorem fq1_7 {cc : ByteArray} {pc : Nat} (h : cc.data.toList[pc]? = some (7 : UInt8)) : decode cc pc = .ok (.iconst 4, 1) := by
  have e0 : (Jvm.ClassFile.Decoder.instr pc) cc pc = .ok (.iconst 4, pc + 1) := by
    unfold Jvm.ClassFile.Decoder.instr
    exact fq_b (fq_u1 (n := 7) h rfl) rfl
  have e := fq_of e0
  rw [Nat.add_sub_cancel_left] at e
  exact e
theorem fq1_8 {cc : ByteArray} {pc : Nat} (h : cc.data.toList[pc]? = some (8 : UInt8)) : decode cc pc = .ok (.iconst 5, 1) := by
  have e0 : (Jvm.ClassFile.Decoder.instr pc) cc pc = .ok (.iconst 5, pc + 1) := by
    unfold Jvm.ClassFile.Decoder.instr
    exact fq_b (fq_u1 (n := 8) h rfl) rfl
  have e := fq_of e0
  rw [Nat.add_sub_cancel_left] at e
  exact e
theorem fq1_133 {cc : ByteArray} {pc : Nat} (h : cc.data.toList[pc]? = some (133 : UInt8)) : decode cc pc = .ok (.i2l, 1) := by
  have e0 : (Jvm.ClassFile.Decoder.instr pc) cc pc = .ok (.i2l, pc + 1) := by
    unfold Jvm.ClassFile.Decoder.instr
    exact fq_b (fq_u1 (n := 133) h rfl) rfl
  have e := fq_of e0
  rw [Nat.add_sub_cancel_left] at e
  exact e
theorem fq1_121 {cc : ByteArray} {pc : Nat} (h : cc.data.toList[pc]? = some (121 : UInt8)) : decode cc pc = .ok (.lshl, 1) := by
  have e0 : (Jvm.ClassFile.Decoder.instr pc) cc pc = .ok (.lshl, pc + 1) := by
    unfold Jvm.ClassFile.Decoder.instr
    exact fq_b (fq_u1 (n := 121) h rfl) rfl
  have e := fq_of e0
  rw [Nat.add_sub_cancel_left] at e
  exact e
theorem fq1_127 {cc : ByteArray} {pc : Nat} (h : cc.data.toList[pc]? = some (127 : UInt8)) : decode cc pc = .ok (.land, 1) := by
  have e0 : (Jvm.ClassFile.Decoder.instr pc) cc pc = .ok (.land, pc + 1) := by
    unfold Jvm.ClassFile.Decoder.instr
    exact fq_b (fq_u1 (n := 127) h rfl) rfl
  have e := fq_of e0
  rw [Nat.add_sub_cancel_left] at e
  exact e
theorem fq1_129 {cc : ByteArray} {pc : Nat} (h : cc.data.toList[pc]? = some (129 : UInt8)) : decode cc pc = .ok (.lor, 1) := by
  have e0 : (Jvm.ClassFile.Decoder.instr pc) cc pc = .ok (.lor, pc + 1) := by
    unfold Jvm.ClassFile.Decoder.instr
    exact fq_b (fq_u1 (n := 129) h rfl) rfl
  have e := fq_of e0
  rw [Nat.add_sub_cancel_left] at e
  exact e
theorem fq3_182 {cc : ByteArray} {pc v : Nat} {x y : UInt8} (h : cc.data.toList[pc]? = some (182 : UInt8)) (h1 : cc.data.toList[pc + 1]? = some x) (h2 : cc.data.toList[pc + 1 + 1]? = some y) (hv : x.toNat * 256 + y.toNat = v) : decode cc pc = .ok (.invokevirtual v, 3) := by
  have e0 : (Jvm.ClassFile.Decoder.instr pc) cc pc = .ok (.invokevirtual v, pc + 3) := by
    unfold Jvm.ClassFile.Decoder.instr
    refine fq_b (fq_u1 (n := 182) h rfl) ?_
    show ((Jvm.ClassFile.Reader.u2 : Jvm.ClassFile.Decoder Nat) >>= fun z => pure (Instr.invokevirtual z)) cc (pc + 1) = _
    exact fq_b (fq_u2 h1 h2) (by subst hv; rfl)
  have e := fq_of e0
  rw [Nat.add_sub_cancel_left] at e
  exact e
theorem fq3_167 {cc : ByteArray} {pc : Nat} {v : Int} {x y : UInt8} (h : cc.data.toList[pc]? = some (167 : UInt8)) (h1 : cc.data.toList[pc + 1]? = some x) (h2 : cc.data.toList[pc + 1 + 1]? = some y) (hv : Jvm.ClassFile.Reader.signed 16 (x.toNat * 256 + y.toNat) = v) : decode cc pc = .ok (.goto v, 3) := by
  have e0 : (Jvm.ClassFile.Decoder.instr pc) cc pc = .ok (.goto v, pc + 3) := by
    unfold Jvm.ClassFile.Decoder.instr
    refine fq_b (fq_u1 (n := 167) h rfl) ?_
    show ((Jvm.ClassFile.Reader.s2 : Jvm.ClassFile.Decoder Int) >>= fun z => pure (Instr.goto z)) cc (pc + 1) = _
    refine fq_b (a := v) (q := pc + 3) ?_ rfl
    unfold Jvm.ClassFile.Reader.s2
    rw [← hv]
    exact fq_m (fq_u2 h1 h2)
  have e := fq_of e0
  rw [Nat.add_sub_cancel_left] at e
  exact e
def fb_0 : List UInt8 := [0xbb, 0x00, 0x07, 0x59, 0xb7, 0x00, 0x09, 0x4c, 0xbb, 0x00, 0x0a, 0x59, 0xb7, 0x00, 0x0c, 0x4d, 0x03, 0x3e, 0x1d, 0x2a, 0xbe, 0x10, 0x06, 0x64, 0xa3, 0x0b, 0x0c, 0x2a, 0x1d, 0x2e, 0x10, 0x7f, 0x7e, 0xaa, 0x00, 0x00, 0x00, 0x00, 0x0a, 0xfd, 0x00, 0x00, 0x00, 0x00, 0x00, 0x00, 0x00, 0x49, 0x00, 0x00, 0x01, 0x37, 0x00, 0x00, 0x01, 0x44, 0x00, 0x00, 0x01, 0x51, 0x00, 0x00, 0x01, 0x5e]
theorem fd_0 : (cL_law.data.toList.drop 0).take 64 = fb_0 := by decide +kernel
def fb_5 : List UInt8 := [0x00, 0x00, 0x0a, 0x87, 0x00, 0x00, 0x0a, 0x94, 0x00, 0x00, 0x0a, 0xab, 0x00, 0x00, 0x0a, 0xc2, 0x00, 0x00, 0x0a, 0xe3, 0x00, 0x00, 0x0a, 0xf0, 0x2b, 0xb6, 0x00, 0x0d, 0x57, 0x2c, 0xb6, 0x00, 0x11, 0x57, 0xa7, 0x09, 0xbc, 0x2b, 0xb6, 0x00, 0x12, 0x58, 0x2c, 0xb6, 0x00, 0x16, 0x58, 0xa7, 0x09, 0xaf, 0x2b, 0xb6, 0x00, 0x17, 0x58, 0x2c, 0xb6, 0x00, 0x1a, 0x58, 0xa7, 0x09, 0xa2, 0x2b]
theorem fd_5 : (cL_law.data.toList.drop 320).take 64 = fb_5 := by decide +kernel
def fb_6 : List UInt8 := [0x2a, 0x1d, 0x04, 0x60, 0x2e, 0x2a, 0x1d, 0x05, 0x60, 0x2e, 0x2a, 0x1d, 0x06, 0x60, 0x2e, 0xb6, 0x00, 0x1b, 0x57, 0x2c, 0x2a, 0x1d, 0x04, 0x60, 0x2e, 0x2a, 0x1d, 0x05, 0x60, 0x2e, 0x2a, 0x1d, 0x06, 0x60, 0x2e, 0xb6, 0x00, 0x1f, 0x57, 0xa7, 0x09, 0x77, 0x2b, 0x2a, 0x1d, 0x04, 0x60, 0x2e, 0x2a, 0x1d, 0x05, 0x60, 0x2e, 0x2a, 0x1d, 0x06, 0x60, 0x2e, 0x85, 0x10, 0x20, 0x79, 0x2a, 0x1d]
theorem fd_6 : (cL_law.data.toList.drop 384).take 64 = fb_6 := by decide +kernel
def fb_7 : List UInt8 := [0x07, 0x60, 0x2e, 0x85, 0x14, 0x00, 0x20, 0x7f, 0x81, 0xb6, 0x00, 0x22, 0x57, 0x2c, 0x2a, 0x1d, 0x04, 0x60, 0x2e, 0x2a, 0x1d, 0x05, 0x60, 0x2e, 0x2a, 0x1d, 0x06, 0x60, 0x2e, 0x85, 0x10, 0x20, 0x79, 0x2a, 0x1d, 0x07, 0x60, 0x2e, 0x85, 0x14, 0x00, 0x20, 0x7f, 0x81, 0xb6, 0x00, 0x26, 0x57, 0xa7, 0x09, 0x2e, 0x2b, 0x2a, 0x1d, 0x04, 0x60, 0x2e, 0x2a, 0x1d, 0x05, 0x60, 0x2e, 0xb6, 0x00]
theorem fd_7 : (cL_law.data.toList.drop 448).take 64 = fb_7 := by decide +kernel
def fb_8 : List UInt8 := [0x27, 0x58, 0x2c, 0x2a, 0x1d, 0x04, 0x60, 0x2e, 0x2a, 0x1d, 0x05, 0x60, 0x2e, 0xb6, 0x00, 0x2b, 0x58, 0xa7, 0x09, 0x0d, 0x2b, 0x2a, 0x1d, 0x04, 0x60, 0x2e, 0x2a, 0x1d, 0x05, 0x60, 0x2e, 0x2a, 0x1d, 0x06, 0x60, 0x2e, 0x2a, 0x1d, 0x07, 0x60, 0x2e, 0x2a, 0x1d, 0x08, 0x60, 0x2e, 0xb6, 0x00, 0x2c, 0x57, 0x2c, 0x2a, 0x1d, 0x04, 0x60, 0x2e, 0x2a, 0x1d, 0x05, 0x60, 0x2e, 0x2a, 0x1d, 0x06]
theorem fd_8 : (cL_law.data.toList.drop 512).take 64 = fb_8 := by decide +kernel
def fb_9 : List UInt8 := [0x60, 0x2e, 0x2a, 0x1d, 0x07, 0x60, 0x2e, 0x2a, 0x1d, 0x08, 0x60, 0x2e, 0xb6, 0x00, 0x30, 0x57, 0xa7, 0x08, 0xce, 0x2b, 0x2a, 0x1d, 0x04, 0x60, 0x2e, 0x2a, 0x1d, 0x05, 0x60, 0x2e, 0x2a, 0x1d, 0x06, 0x60, 0x2e, 0x2a, 0x1d, 0x07, 0x60, 0x2e, 0x2a, 0x1d, 0x08, 0x60, 0x2e, 0xb6, 0x00, 0x31, 0x57, 0x2c, 0x2a, 0x1d, 0x04, 0x60, 0x2e, 0x2a, 0x1d, 0x05, 0x60, 0x2e, 0x2a, 0x1d, 0x06, 0x60]
theorem fd_9 : (cL_law.data.toList.drop 576).take 64 = fb_9 := by decide +kernel
def fb_10 : List UInt8 := [0x2e, 0x2a, 0x1d, 0x07, 0x60, 0x2e, 0x2a, 0x1d, 0x08, 0x60, 0x2e, 0xb6, 0x00, 0x35, 0x57, 0xa7, 0x08, 0x8f, 0x2b, 0x2a, 0x1d, 0x04, 0x60, 0x2e, 0xb6, 0x00, 0x36, 0x57, 0x2c, 0x2a, 0x1d, 0x04, 0x60, 0x2e, 0xb6, 0x00, 0x3a, 0x57, 0xa7, 0x08, 0x78, 0x2b, 0x2a, 0x1d, 0x04, 0x60, 0x2e, 0xb6, 0x00, 0x3b, 0x57, 0x2c, 0x2a, 0x1d, 0x04, 0x60, 0x2e, 0xb6, 0x00, 0x3e, 0x57, 0xa7, 0x08, 0x61]
theorem fd_10 : (cL_law.data.toList.drop 640).take 64 = fb_10 := by decide +kernel
def fb_11 : List UInt8 := [0x2b, 0x2a, 0x1d, 0x04, 0x60, 0x2e, 0xb6, 0x00, 0x3f, 0x57, 0x2c, 0x2a, 0x1d, 0x04, 0x60, 0x2e, 0xb6, 0x00, 0x42, 0x57, 0xa7, 0x08, 0x4a, 0x2b, 0x2a, 0x1d, 0x04, 0x60, 0x2e, 0xb6, 0x00, 0x43, 0x2c, 0x2a, 0x1d, 0x04, 0x60, 0x2e, 0xb6, 0x00, 0x46, 0x9f, 0x08, 0x35, 0x03, 0xac, 0x2b, 0x2a, 0x1d, 0x04, 0x60, 0x2e, 0x2a, 0x1d, 0x05, 0x60, 0x2e, 0xb6, 0x00, 0x47, 0x57, 0x2c, 0x2a, 0x1d]
theorem fd_11 : (cL_law.data.toList.drop 704).take 64 = fb_11 := by decide +kernel
def fb_12 : List UInt8 := [0x04, 0x60, 0x2e, 0x2a, 0x1d, 0x05, 0x60, 0x2e, 0xb6, 0x00, 0x4b, 0x57, 0xa7, 0x08, 0x12, 0x2b, 0x2a, 0x1d, 0x04, 0x60, 0x2e, 0x2a, 0x1d, 0x05, 0x60, 0x2e, 0xb6, 0x00, 0x4c, 0x57, 0x2c, 0x2a, 0x1d, 0x04, 0x60, 0x2e, 0x2a, 0x1d, 0x05, 0x60, 0x2e, 0xb6, 0x00, 0x4f, 0x57, 0xa7, 0x07, 0xf1, 0x2b, 0x2a, 0x1d, 0x04, 0x60, 0x2e, 0x2a, 0x1d, 0x05, 0x60, 0x2e, 0xb6, 0x00, 0x50, 0x57, 0x2c]
theorem fd_12 : (cL_law.data.toList.drop 768).take 64 = fb_12 := by decide +kernel
def fb_13 : List UInt8 := [0x2a, 0x1d, 0x04, 0x60, 0x2e, 0x2a, 0x1d, 0x05, 0x60, 0x2e, 0xb6, 0x00, 0x53, 0x57, 0xa7, 0x07, 0xd0, 0x2b, 0x2a, 0x1d, 0x04, 0x60, 0x2e, 0x2a, 0x1d, 0x05, 0x60, 0x2e, 0x2a, 0x1d, 0x06, 0x60, 0x2e, 0x2a, 0x1d, 0x07, 0x60, 0x2e, 0xb6, 0x00, 0x54, 0x57, 0x2c, 0x2a, 0x1d, 0x04, 0x60, 0x2e, 0x2a, 0x1d, 0x05, 0x60, 0x2e, 0x2a, 0x1d, 0x06, 0x60, 0x2e, 0x2a, 0x1d, 0x07, 0x60, 0x2e, 0xb6]
theorem fd_13 : (cL_law.data.toList.drop 832).take 64 = fb_13 := by decide +kernel
def fb_14 : List UInt8 := [0x00, 0x58, 0x57, 0xa7, 0x07, 0x9b, 0x2b, 0x2a, 0x1d, 0x04, 0x60, 0x2e, 0x2a, 0x1d, 0x05, 0x60, 0x2e, 0x2a, 0x1d, 0x06, 0x60, 0x2e, 0xb6, 0x00, 0x59, 0x57, 0x2c, 0x2a, 0x1d, 0x04, 0x60, 0x2e, 0x2a, 0x1d, 0x05, 0x60, 0x2e, 0x2a, 0x1d, 0x06, 0x60, 0x2e, 0xb6, 0x00, 0x5d, 0x57, 0xa7, 0x07, 0x70, 0x2b, 0x2a, 0x1d, 0x04, 0x60, 0x2e, 0x2a, 0x1d, 0x05, 0x60, 0x2e, 0x2a, 0x1d, 0x06, 0x60]
theorem fd_14 : (cL_law.data.toList.drop 896).take 64 = fb_14 := by decide +kernel
def fb_15 : List UInt8 := [0x2e, 0xb6, 0x00, 0x5e, 0x57, 0x2c, 0x2a, 0x1d, 0x04, 0x60, 0x2e, 0x2a, 0x1d, 0x05, 0x60, 0x2e, 0x2a, 0x1d, 0x06, 0x60, 0x2e, 0xb6, 0x00, 0x61, 0x57, 0xa7, 0x07, 0x45, 0x2b, 0x2a, 0x1d, 0x04, 0x60, 0x2e, 0x2a, 0x1d, 0x05, 0x60, 0x2e, 0x2a, 0x1d, 0x06, 0x60, 0x2e, 0xb6, 0x00, 0x62, 0x57, 0x2c, 0x2a, 0x1d, 0x04, 0x60, 0x2e, 0x2a, 0x1d, 0x05, 0x60, 0x2e, 0x2a, 0x1d, 0x06, 0x60, 0x2e]
theorem fd_15 : (cL_law.data.toList.drop 960).take 64 = fb_15 := by decide +kernel
def fb_16 : List UInt8 := [0xb6, 0x00, 0x65, 0x57, 0xa7, 0x07, 0x1a, 0x2b, 0x2a, 0x1d, 0x04, 0x60, 0x2e, 0x2a, 0x1d, 0x05, 0x60, 0x2e, 0x2a, 0x1d, 0x06, 0x60, 0x2e, 0xb6, 0x00, 0x66, 0x57, 0x2c, 0x2a, 0x1d, 0x04, 0x60, 0x2e, 0x2a, 0x1d, 0x05, 0x60, 0x2e, 0x2a, 0x1d, 0x06, 0x60, 0x2e, 0xb6, 0x00, 0x69, 0x57, 0xa7, 0x06, 0xef, 0x2b, 0x2a, 0x1d, 0x04, 0x60, 0x2e, 0x2a, 0x1d, 0x05, 0x60, 0x2e, 0xb6, 0x00, 0x6a]
theorem fd_16 : (cL_law.data.toList.drop 1024).take 64 = fb_16 := by decide +kernel
def fb_17 : List UInt8 := [0x57, 0x2c, 0x2a, 0x1d, 0x04, 0x60, 0x2e, 0x2a, 0x1d, 0x05, 0x60, 0x2e, 0xb6, 0x00, 0x6d, 0x57, 0xa7, 0x06, 0xce, 0x2b, 0x2a, 0x1d, 0x04, 0x60, 0x2e, 0x2a, 0x1d, 0x05, 0x60, 0x2e, 0x2a, 0x1d, 0x06, 0x60, 0x2e, 0x2a, 0x1d, 0x07, 0x60, 0x2e, 0xb6, 0x00, 0x6e, 0x57, 0x2c, 0x2a, 0x1d, 0x04, 0x60, 0x2e, 0x2a, 0x1d, 0x05, 0x60, 0x2e, 0x2a, 0x1d, 0x06, 0x60, 0x2e, 0x2a, 0x1d, 0x07, 0x60]
theorem fd_17 : (cL_law.data.toList.drop 1088).take 64 = fb_17 := by decide +kernel
def fb_18 : List UInt8 := [0x2e, 0xb6, 0x00, 0x71, 0x57, 0xa7, 0x06, 0x99, 0x2b, 0x2a, 0x1d, 0x04, 0x60, 0x2e, 0xb6, 0x00, 0x72, 0x57, 0x2c, 0x2a, 0x1d, 0x04, 0x60, 0x2e, 0xb6, 0x00, 0x75, 0x57, 0xa7, 0x06, 0x82, 0x2b, 0x2a, 0x1d, 0x04, 0x60, 0x2e, 0x2a, 0x1d, 0x05, 0x60, 0x2e, 0x2a, 0x1d, 0x06, 0x60, 0x2e, 0xb6, 0x00, 0x76, 0x57, 0x2c, 0x2a, 0x1d, 0x04, 0x60, 0x2e, 0x2a, 0x1d, 0x05, 0x60, 0x2e, 0x2a, 0x1d]
theorem fd_18 : (cL_law.data.toList.drop 1152).take 64 = fb_18 := by decide +kernel
def fb_19 : List UInt8 := [0x06, 0x60, 0x2e, 0xb6, 0x00, 0x79, 0x57, 0xa7, 0x06, 0x57, 0x2b, 0x2a, 0x1d, 0x04, 0x60, 0x2e, 0xb6, 0x00, 0x7a, 0x57, 0x2c, 0x2a, 0x1d, 0x04, 0x60, 0x2e, 0xb6, 0x00, 0x7d, 0x57, 0xa7, 0x06, 0x40, 0x2b, 0x2a, 0x1d, 0x04, 0x60, 0x2e, 0x2a, 0x1d, 0x05, 0x60, 0x2e, 0x2a, 0x1d, 0x06, 0x60, 0x2e, 0x2a, 0x1d, 0x07, 0x60, 0x2e, 0xb6, 0x00, 0x7e, 0x57, 0x2c, 0x2a, 0x1d, 0x04, 0x60, 0x2e]
theorem fd_19 : (cL_law.data.toList.drop 1216).take 64 = fb_19 := by decide +kernel
def fb_20 : List UInt8 := [0x2a, 0x1d, 0x05, 0x60, 0x2e, 0x2a, 0x1d, 0x06, 0x60, 0x2e, 0x2a, 0x1d, 0x07, 0x60, 0x2e, 0xb6, 0x00, 0x81, 0x57, 0xa7, 0x06, 0x0b, 0x2b, 0x2a, 0x1d, 0x04, 0x60, 0x2e, 0x2a, 0x1d, 0x05, 0x60, 0x2e, 0x2a, 0x1d, 0x06, 0x60, 0x2e, 0xb6, 0x00, 0x82, 0x57, 0x2c, 0x2a, 0x1d, 0x04, 0x60, 0x2e, 0x2a, 0x1d, 0x05, 0x60, 0x2e, 0x2a, 0x1d, 0x06, 0x60, 0x2e, 0xb6, 0x00, 0x85, 0x57, 0xa7, 0x05]
theorem fd_20 : (cL_law.data.toList.drop 1280).take 64 = fb_20 := by decide +kernel
def fb_21 : List UInt8 := [0xe0, 0x2b, 0x2a, 0x1d, 0x04, 0x60, 0x2e, 0x2a, 0x1d, 0x05, 0x60, 0x2e, 0x2a, 0x1d, 0x06, 0x60, 0x2e, 0xb6, 0x00, 0x86, 0x57, 0x2c, 0x2a, 0x1d, 0x04, 0x60, 0x2e, 0x2a, 0x1d, 0x05, 0x60, 0x2e, 0x2a, 0x1d, 0x06, 0x60, 0x2e, 0xb6, 0x00, 0x89, 0x57, 0xa7, 0x05, 0xb5, 0x2b, 0x2a, 0x1d, 0x04, 0x60, 0x2e, 0x2a, 0x1d, 0x05, 0x60, 0x2e, 0x2a, 0x1d, 0x06, 0x60, 0x2e, 0xb6, 0x00, 0x8a, 0x57]
theorem fd_21 : (cL_law.data.toList.drop 1344).take 64 = fb_21 := by decide +kernel
def fb_22 : List UInt8 := [0x2c, 0x2a, 0x1d, 0x04, 0x60, 0x2e, 0x2a, 0x1d, 0x05, 0x60, 0x2e, 0x2a, 0x1d, 0x06, 0x60, 0x2e, 0xb6, 0x00, 0x8d, 0x57, 0xa7, 0x05, 0x8a, 0x2b, 0x2a, 0x1d, 0x04, 0x60, 0x2e, 0x2a, 0x1d, 0x05, 0x60, 0x2e, 0x2a, 0x1d, 0x06, 0x60, 0x2e, 0xb6, 0x00, 0x8e, 0x57, 0x2c, 0x2a, 0x1d, 0x04, 0x60, 0x2e, 0x2a, 0x1d, 0x05, 0x60, 0x2e, 0x2a, 0x1d, 0x06, 0x60, 0x2e, 0xb6, 0x00, 0x91, 0x57, 0xa7]
theorem fd_22 : (cL_law.data.toList.drop 1408).take 64 = fb_22 := by decide +kernel
def fb_23 : List UInt8 := [0x05, 0x5f, 0x2b, 0x2a, 0x1d, 0x04, 0x60, 0x2e, 0x2a, 0x1d, 0x05, 0x60, 0x2e, 0xb6, 0x00, 0x92, 0x57, 0x2c, 0x2a, 0x1d, 0x04, 0x60, 0x2e, 0x2a, 0x1d, 0x05, 0x60, 0x2e, 0xb6, 0x00, 0x95, 0x57, 0xa7, 0x05, 0x3e, 0x2b, 0x2a, 0x1d, 0x04, 0x60, 0x2e, 0x2a, 0x1d, 0x05, 0x60, 0x2e, 0x2a, 0x1d, 0x06, 0x60, 0x2e, 0xb6, 0x00, 0x96, 0x57, 0x2c, 0x2a, 0x1d, 0x04, 0x60, 0x2e, 0x2a, 0x1d, 0x05]
theorem fd_23 : (cL_law.data.toList.drop 1472).take 64 = fb_23 := by decide +kernel
def fb_24 : List UInt8 := [0x60, 0x2e, 0x2a, 0x1d, 0x06, 0x60, 0x2e, 0xb6, 0x00, 0x99, 0x57, 0xa7, 0x05, 0x13, 0x2b, 0x2a, 0x1d, 0x04, 0x60, 0x2e, 0x2a, 0x1d, 0x05, 0x60, 0x2e, 0xb6, 0x00, 0x9a, 0x57, 0x2c, 0x2a, 0x1d, 0x04, 0x60, 0x2e, 0x2a, 0x1d, 0x05, 0x60, 0x2e, 0xb6, 0x00, 0x9d, 0x57, 0xa7, 0x04, 0xf2, 0x2b, 0x2a, 0x1d, 0x04, 0x60, 0x2e, 0xb6, 0x00, 0x9e, 0x57, 0x2c, 0x2a, 0x1d, 0x04, 0x60, 0x2e, 0xb6]
theorem fd_24 : (cL_law.data.toList.drop 1536).take 64 = fb_24 := by decide +kernel
def fb_25 : List UInt8 := [0x00, 0xa1, 0x57, 0xa7, 0x04, 0xdb, 0x2b, 0x2a, 0x1d, 0x04, 0x60, 0x2e, 0x2a, 0x1d, 0x05, 0x60, 0x2e, 0xb6, 0x00, 0xa2, 0x57, 0x2c, 0x2a, 0x1d, 0x04, 0x60, 0x2e, 0x2a, 0x1d, 0x05, 0x60, 0x2e, 0xb6, 0x00, 0xa5, 0x57, 0xa7, 0x04, 0xba, 0x2b, 0x2a, 0x1d, 0x04, 0x60, 0x2e, 0x2a, 0x1d, 0x05, 0x60, 0x2e, 0xb6, 0x00, 0xa6, 0x57, 0x2c, 0x2a, 0x1d, 0x04, 0x60, 0x2e, 0x2a, 0x1d, 0x05, 0x60]
theorem fd_25 : (cL_law.data.toList.drop 1600).take 64 = fb_25 := by decide +kernel
def fb_26 : List UInt8 := [0x2e, 0xb6, 0x00, 0xa9, 0x57, 0xa7, 0x04, 0x99, 0x2b, 0x2a, 0x1d, 0x04, 0x60, 0x2e, 0xb6, 0x00, 0xaa, 0x57, 0x2c, 0x2a, 0x1d, 0x04, 0x60, 0x2e, 0xb6, 0x00, 0xad, 0x57, 0xa7, 0x04, 0x82, 0x2b, 0x2a, 0x1d, 0x04, 0x60, 0x2e, 0xb6, 0x00, 0xae, 0x57, 0x2c, 0x2a, 0x1d, 0x04, 0x60, 0x2e, 0xb6, 0x00, 0xb1, 0x57, 0xa7, 0x04, 0x6b, 0x2b, 0x2a, 0x1d, 0x04, 0x60, 0x2e, 0x2a, 0x1d, 0x05, 0x60]
theorem fd_26 : (cL_law.data.toList.drop 1664).take 64 = fb_26 := by decide +kernel
def fb_27 : List UInt8 := [0x2e, 0xb6, 0x00, 0xb2, 0x57, 0x2c, 0x2a, 0x1d, 0x04, 0x60, 0x2e, 0x2a, 0x1d, 0x05, 0x60, 0x2e, 0xb6, 0x00, 0xb5, 0x57, 0xa7, 0x04, 0x4a, 0x2b, 0x2a, 0x1d, 0x04, 0x60, 0x2e, 0x2a, 0x1d, 0x05, 0x60, 0x2e, 0xb6, 0x00, 0xb6, 0x57, 0x2c, 0x2a, 0x1d, 0x04, 0x60, 0x2e, 0x2a, 0x1d, 0x05, 0x60, 0x2e, 0xb6, 0x00, 0xb9, 0x57, 0xa7, 0x04, 0x29, 0x2b, 0x2a, 0x1d, 0x04, 0x60, 0x2e, 0x2a, 0x1d]
theorem fd_27 : (cL_law.data.toList.drop 1728).take 64 = fb_27 := by decide +kernel
def fb_28 : List UInt8 := [0x05, 0x60, 0x2e, 0xb6, 0x00, 0xba, 0x57, 0x2c, 0x2a, 0x1d, 0x04, 0x60, 0x2e, 0x2a, 0x1d, 0x05, 0x60, 0x2e, 0xb6, 0x00, 0xbd, 0x57, 0xa7, 0x04, 0x08, 0x2b, 0x2a, 0x1d, 0x04, 0x60, 0x2e, 0x2a, 0x1d, 0x05, 0x60, 0x2e, 0xb6, 0x00, 0xbe, 0x57, 0x2c, 0x2a, 0x1d, 0x04, 0x60, 0x2e, 0x2a, 0x1d, 0x05, 0x60, 0x2e, 0xb6, 0x00, 0xc1, 0x57, 0xa7, 0x03, 0xe7, 0x2b, 0x2a, 0x1d, 0x04, 0x60, 0x2e]
theorem fd_28 : (cL_law.data.toList.drop 1792).take 64 = fb_28 := by decide +kernel
def fb_29 : List UInt8 := [0x2a, 0x1d, 0x05, 0x60, 0x2e, 0x2a, 0x1d, 0x06, 0x60, 0x2e, 0xb6, 0x00, 0xc2, 0x57, 0x2c, 0x2a, 0x1d, 0x04, 0x60, 0x2e, 0x2a, 0x1d, 0x05, 0x60, 0x2e, 0x2a, 0x1d, 0x06, 0x60, 0x2e, 0xb6, 0x00, 0xc5, 0x57, 0xa7, 0x03, 0xbc, 0x2b, 0x2a, 0x1d, 0x04, 0x60, 0x2e, 0x2a, 0x1d, 0x05, 0x60, 0x2e, 0xb6, 0x00, 0xc6, 0x57, 0x2c, 0x2a, 0x1d, 0x04, 0x60, 0x2e, 0x2a, 0x1d, 0x05, 0x60, 0x2e, 0xb6]
theorem fd_29 : (cL_law.data.toList.drop 1856).take 64 = fb_29 := by decide +kernel
def fb_30 : List UInt8 := [0x00, 0xc9, 0x57, 0xa7, 0x03, 0x9b, 0x2b, 0xb6, 0x00, 0xca, 0x57, 0x2c, 0xb6, 0x00, 0xcd, 0x57, 0xa7, 0x03, 0x8e, 0x2b, 0x2a, 0x1d, 0x04, 0x60, 0x2e, 0xb6, 0x00, 0xce, 0x57, 0x2c, 0x2a, 0x1d, 0x04, 0x60, 0x2e, 0xb6, 0x00, 0xd1, 0x57, 0xa7, 0x03, 0x77, 0x2b, 0x2a, 0x1d, 0x04, 0x60, 0x2e, 0x2a, 0x1d, 0x05, 0x60, 0x2e, 0xb6, 0x00, 0xd2, 0x57, 0x2c, 0x2a, 0x1d, 0x04, 0x60, 0x2e, 0x2a]
theorem fd_30 : (cL_law.data.toList.drop 1920).take 64 = fb_30 := by decide +kernel
def fb_31 : List UInt8 := [0x1d, 0x05, 0x60, 0x2e, 0xb6, 0x00, 0xd5, 0x57, 0xa7, 0x03, 0x56, 0x2b, 0x2a, 0x1d, 0x04, 0x60, 0x2e, 0x2a, 0x1d, 0x05, 0x60, 0x2e, 0xb6, 0x00, 0xd6, 0x57, 0x2c, 0x2a, 0x1d, 0x04, 0x60, 0x2e, 0x2a, 0x1d, 0x05, 0x60, 0x2e, 0xb6, 0x00, 0xd9, 0x57, 0xa7, 0x03, 0x35, 0x2b, 0xb6, 0x00, 0xda, 0x57, 0x2c, 0xb6, 0x00, 0xdd, 0x57, 0xa7, 0x03, 0x28, 0x2b, 0x2a, 0x1d, 0x04, 0x60, 0x2e, 0x2a]
theorem fd_31 : (cL_law.data.toList.drop 1984).take 64 = fb_31 := by decide +kernel
def fb_32 : List UInt8 := [0x1d, 0x05, 0x60, 0x2e, 0x2a, 0x1d, 0x06, 0x60, 0x2e, 0xb6, 0x00, 0xde, 0x57, 0x2c, 0x2a, 0x1d, 0x04, 0x60, 0x2e, 0x2a, 0x1d, 0x05, 0x60, 0x2e, 0x2a, 0x1d, 0x06, 0x60, 0x2e, 0xb6, 0x00, 0xe1, 0x57, 0xa7, 0x02, 0xfd, 0x2b, 0x2a, 0x1d, 0x04, 0x60, 0x2e, 0x2a, 0x1d, 0x05, 0x60, 0x2e, 0x2a, 0x1d, 0x06, 0x60, 0x2e, 0xb6, 0x00, 0xe2, 0x57, 0x2c, 0x2a, 0x1d, 0x04, 0x60, 0x2e, 0x2a, 0x1d]
theorem fd_32 : (cL_law.data.toList.drop 2048).take 64 = fb_32 := by decide +kernel
def fb_33 : List UInt8 := [0x05, 0x60, 0x2e, 0x2a, 0x1d, 0x06, 0x60, 0x2e, 0xb6, 0x00, 0xe5, 0x57, 0xa7, 0x02, 0xd2, 0x2b, 0x2a, 0x1d, 0x04, 0x60, 0x2e, 0x2a, 0x1d, 0x05, 0x60, 0x2e, 0xb6, 0x00, 0xe6, 0x57, 0x2c, 0x2a, 0x1d, 0x04, 0x60, 0x2e, 0x2a, 0x1d, 0x05, 0x60, 0x2e, 0xb6, 0x00, 0xe9, 0x57, 0xa7, 0x02, 0xb1, 0x2b, 0x2a, 0x1d, 0x04, 0x60, 0x2e, 0x2a, 0x1d, 0x05, 0x60, 0x2e, 0xb6, 0x00, 0xea, 0x57, 0x2c]
theorem fd_33 : (cL_law.data.toList.drop 2112).take 64 = fb_33 := by decide +kernel
def fb_34 : List UInt8 := [0x2a, 0x1d, 0x04, 0x60, 0x2e, 0x2a, 0x1d, 0x05, 0x60, 0x2e, 0xb6, 0x00, 0xed, 0x57, 0xa7, 0x02, 0x90, 0x2b, 0x2a, 0x1d, 0x04, 0x60, 0x2e, 0x2a, 0x1d, 0x05, 0x60, 0x2e, 0x2a, 0x1d, 0x06, 0x60, 0x2e, 0xb6, 0x00, 0xee, 0x57, 0x2c, 0x2a, 0x1d, 0x04, 0x60, 0x2e, 0x2a, 0x1d, 0x05, 0x60, 0x2e, 0x2a, 0x1d, 0x06, 0x60, 0x2e, 0xb6, 0x00, 0xf1, 0x57, 0xa7, 0x02, 0x65, 0x2b, 0x2a, 0x1d, 0x04]
theorem fd_34 : (cL_law.data.toList.drop 2176).take 64 = fb_34 := by decide +kernel
def fb_35 : List UInt8 := [0x60, 0x2e, 0x2a, 0x1d, 0x05, 0x60, 0x2e, 0x2a, 0x1d, 0x06, 0x60, 0x2e, 0x2a, 0x1d, 0x07, 0x60, 0x2e, 0xb6, 0x00, 0xf2, 0x57, 0x2c, 0x2a, 0x1d, 0x04, 0x60, 0x2e, 0x2a, 0x1d, 0x05, 0x60, 0x2e, 0x2a, 0x1d, 0x06, 0x60, 0x2e, 0x2a, 0x1d, 0x07, 0x60, 0x2e, 0xb6, 0x00, 0xf5, 0x57, 0xa7, 0x02, 0x30, 0x2b, 0x2a, 0x1d, 0x04, 0x60, 0x2e, 0x2a, 0x1d, 0x05, 0x60, 0x2e, 0xb6, 0x00, 0xf6, 0x57]
theorem fd_35 : (cL_law.data.toList.drop 2240).take 64 = fb_35 := by decide +kernel
def fb_36 : List UInt8 := [0x2c, 0x2a, 0x1d, 0x04, 0x60, 0x2e, 0x2a, 0x1d, 0x05, 0x60, 0x2e, 0xb6, 0x00, 0xf9, 0x57, 0xa7, 0x02, 0x0f, 0x2b, 0x2a, 0x1d, 0x04, 0x60, 0x2e, 0x2a, 0x1d, 0x05, 0x60, 0x2e, 0x2a, 0x1d, 0x06, 0x60, 0x2e, 0xb6, 0x00, 0xfa, 0x57, 0x2c, 0x2a, 0x1d, 0x04, 0x60, 0x2e, 0x2a, 0x1d, 0x05, 0x60, 0x2e, 0x2a, 0x1d, 0x06, 0x60, 0x2e, 0xb6, 0x00, 0xfd, 0x57, 0xa7, 0x01, 0xe4, 0x2b, 0x2a, 0x1d]
theorem fd_36 : (cL_law.data.toList.drop 2304).take 64 = fb_36 := by decide +kernel
def fb_37 : List UInt8 := [0x04, 0x60, 0x2e, 0x2a, 0x1d, 0x05, 0x60, 0x2e, 0x2a, 0x1d, 0x06, 0x60, 0x2e, 0xb6, 0x00, 0xfe, 0x57, 0x2c, 0x2a, 0x1d, 0x04, 0x60, 0x2e, 0x2a, 0x1d, 0x05, 0x60, 0x2e, 0x2a, 0x1d, 0x06, 0x60, 0x2e, 0xb6, 0x01, 0x01, 0x57, 0xa7, 0x01, 0xb9, 0x2b, 0x2a, 0x1d, 0x04, 0x60, 0x2e, 0x2a, 0x1d, 0x05, 0x60, 0x2e, 0x2a, 0x1d, 0x06, 0x60, 0x2e, 0xb6, 0x01, 0x02, 0x57, 0x2c, 0x2a, 0x1d, 0x04]
theorem fd_37 : (cL_law.data.toList.drop 2368).take 64 = fb_37 := by decide +kernel
def fb_38 : List UInt8 := [0x60, 0x2e, 0x2a, 0x1d, 0x05, 0x60, 0x2e, 0x2a, 0x1d, 0x06, 0x60, 0x2e, 0xb6, 0x01, 0x05, 0x57, 0xa7, 0x01, 0x8e, 0x2b, 0x2a, 0x1d, 0x04, 0x60, 0x2e, 0x2a, 0x1d, 0x05, 0x60, 0x2e, 0xb6, 0x01, 0x06, 0x57, 0x2c, 0x2a, 0x1d, 0x04, 0x60, 0x2e, 0x2a, 0x1d, 0x05, 0x60, 0x2e, 0xb6, 0x01, 0x09, 0x57, 0xa7, 0x01, 0x6d, 0x2b, 0x2a, 0x1d, 0x04, 0x60, 0x2e, 0x2a, 0x1d, 0x05, 0x60, 0x2e, 0x2a]
theorem fd_38 : (cL_law.data.toList.drop 2432).take 64 = fb_38 := by decide +kernel
def fb_39 : List UInt8 := [0x1d, 0x06, 0x60, 0x2e, 0xb6, 0x01, 0x0a, 0x57, 0x2c, 0x2a, 0x1d, 0x04, 0x60, 0x2e, 0x2a, 0x1d, 0x05, 0x60, 0x2e, 0x2a, 0x1d, 0x06, 0x60, 0x2e, 0xb6, 0x01, 0x0d, 0x57, 0xa7, 0x01, 0x42, 0x2b, 0x2a, 0x1d, 0x04, 0x60, 0x2e, 0xb6, 0x01, 0x0e, 0x57, 0x2c, 0x2a, 0x1d, 0x04, 0x60, 0x2e, 0xb6, 0x01, 0x11, 0x57, 0xa7, 0x01, 0x2b, 0x2b, 0x2a, 0x1d, 0x04, 0x60, 0x2e, 0x2a, 0x1d, 0x05, 0x60]
theorem fd_39 : (cL_law.data.toList.drop 2496).take 64 = fb_39 := by decide +kernel
def fb_40 : List UInt8 := [0x2e, 0xb6, 0x01, 0x12, 0x57, 0x2c, 0x2a, 0x1d, 0x04, 0x60, 0x2e, 0x2a, 0x1d, 0x05, 0x60, 0x2e, 0xb6, 0x01, 0x15, 0x57, 0xa7, 0x01, 0x0a, 0x2b, 0x2a, 0x1d, 0x04, 0x60, 0x2e, 0x2a, 0x1d, 0x05, 0x60, 0x2e, 0xb6, 0x01, 0x16, 0x57, 0x2c, 0x2a, 0x1d, 0x04, 0x60, 0x2e, 0x2a, 0x1d, 0x05, 0x60, 0x2e, 0xb6, 0x01, 0x1a, 0x57, 0xa7, 0x00, 0xe9, 0x2b, 0x2a, 0x1d, 0x04, 0x60, 0x2e, 0x2a, 0x1d]
theorem fd_40 : (cL_law.data.toList.drop 2560).take 64 = fb_40 := by decide +kernel
def fb_41 : List UInt8 := [0x05, 0x60, 0x2e, 0xb6, 0x01, 0x1b, 0x57, 0x2c, 0x2a, 0x1d, 0x04, 0x60, 0x2e, 0x2a, 0x1d, 0x05, 0x60, 0x2e, 0xb6, 0x01, 0x1e, 0x57, 0xa7, 0x00, 0xc8, 0x2b, 0x2a, 0x1d, 0x04, 0x60, 0x2e, 0x2a, 0x1d, 0x05, 0x60, 0x2e, 0xb6, 0x01, 0x1f, 0x57, 0x2c, 0x2a, 0x1d, 0x04, 0x60, 0x2e, 0x2a, 0x1d, 0x05, 0x60, 0x2e, 0xb6, 0x01, 0x22, 0x57, 0xa7, 0x00, 0xa7, 0x2b, 0x2a, 0x1d, 0x04, 0x60, 0x2e]
theorem fd_41 : (cL_law.data.toList.drop 2624).take 64 = fb_41 := by decide +kernel
def fb_42 : List UInt8 := [0xb6, 0x01, 0x23, 0x57, 0x2c, 0x2a, 0x1d, 0x04, 0x60, 0x2e, 0xb6, 0x01, 0x26, 0x57, 0xa7, 0x00, 0x90, 0x2b, 0x2a, 0x1d, 0x04, 0x60, 0x2e, 0xb6, 0x01, 0x27, 0x57, 0x2c, 0x2a, 0x1d, 0x04, 0x60, 0x2e, 0xb6, 0x01, 0x2a, 0x57, 0xa7, 0x00, 0x79, 0x2b, 0xb6, 0x01, 0x2b, 0x57, 0x2c, 0xb6, 0x01, 0x2e, 0x57, 0xa7, 0x00, 0x6c, 0x2b, 0x2a, 0x1d, 0x04, 0x60, 0x2e, 0xb6, 0x01, 0x2f, 0x57, 0x2c]
theorem fd_42 : (cL_law.data.toList.drop 2688).take 64 = fb_42 := by decide +kernel
def fb_43 : List UInt8 := [0x2a, 0x1d, 0x04, 0x60, 0x2e, 0xb6, 0x01, 0x32, 0x57, 0xa7, 0x00, 0x55, 0x2b, 0x2a, 0x1d, 0x04, 0x60, 0x2e, 0xb6, 0x01, 0x33, 0x57, 0x2c, 0x2a, 0x1d, 0x04, 0x60, 0x2e, 0xb6, 0x01, 0x36, 0x57, 0xa7, 0x00, 0x3e, 0x2b, 0x2a, 0x1d, 0x04, 0x60, 0x2e, 0x2a, 0x1d, 0x05, 0x60, 0x2e, 0xb6, 0x01, 0x37, 0x57, 0x2c, 0x2a, 0x1d, 0x04, 0x60, 0x2e, 0x2a, 0x1d, 0x05, 0x60, 0x2e, 0xb6, 0x01, 0x3a]
theorem fd_43 : (cL_law.data.toList.drop 2752).take 64 = fb_43 := by decide +kernel
def fb_44 : List UInt8 := [0x57, 0xa7, 0x00, 0x1d, 0x2b, 0xb6, 0x01, 0x3b, 0x57, 0x2c, 0xb6, 0x01, 0x3e, 0x57, 0xa7, 0x00, 0x10, 0x2b, 0xb6, 0x01, 0x3f, 0x57, 0x2c, 0xb6, 0x01, 0x42, 0x57, 0xa7, 0x00, 0x03, 0x84, 0x03, 0x06, 0xa7, 0xf4, 0xf1, 0x04, 0xac]
theorem fd_44 : (cL_law.data.toList.drop 2816).take 64 = fb_44 := by decide +kernel
theorem fl_0 {p j : Nat} {b : UInt8} (e : p = 0 + j) (h : fb_0[j]? = some b) : cL_law.data.toList[p]? = some b := fq_l fd_0 e h
theorem fl_5 {p j : Nat} {b : UInt8} (e : p = 320 + j) (h : fb_5[j]? = some b) : cL_law.data.toList[p]? = some b := fq_l fd_5 e h
theorem fl_6 {p j : Nat} {b : UInt8} (e : p = 384 + j) (h : fb_6[j]? = some b) : cL_law.data.toList[p]? = some b := fq_l fd_6 e h
theorem fl_7 {p j : Nat} {b : UInt8} (e : p = 448 + j) (h : fb_7[j]? = some b) : cL_law.data.toList[p]? = some b := fq_l fd_7 e h
theorem fl_8 {p j : Nat} {b : UInt8} (e : p = 512 + j) (h : fb_8[j]? = some b) : cL_law.data.toList[p]? = some b := fq_l fd_8 e h
theorem fl_9 {p j : Nat} {b : UInt8} (e : p = 576 + j) (h : fb_9[j]? = some b) : cL_law.data.toList[p]? = some b := fq_l fd_9 e h
theorem fl_10 {p j : Nat} {b : UInt8} (e : p = 640 + j) (h : fb_10[j]? = some b) : cL_law.data.toList[p]? = some b := fq_l fd_10 e h
theorem fl_11 {p j : Nat} {b : UInt8} (e : p = 704 + j) (h : fb_11[j]? = some b) : cL_law.data.toList[p]? = some b := fq_l fd_11 e h
theorem fl_12 {p j : Nat} {b : UInt8} (e : p = 768 + j) (h : fb_12[j]? = some b) : cL_law.data.toList[p]? = some b := fq_l fd_12 e h
theorem fl_13 {p j : Nat} {b : UInt8} (e : p = 832 + j) (h : fb_13[j]? = some b) : cL_law.data.toList[p]? = some b := fq_l fd_13 e h
theorem fl_14 {p j : Nat} {b : UInt8} (e : p = 896 + j) (h : fb_14[j]? = some b) : cL_law.data.toList[p]? = some b := fq_l fd_14 e h
theorem fl_15 {p j : Nat} {b : UInt8} (e : p = 960 + j) (h : fb_15[j]? = some b) : cL_law.data.toList[p]? = some b := fq_l fd_15 e h
theorem fl_16 {p j : Nat} {b : UInt8} (e : p = 1024 + j) (h : fb_16[j]? = some b) : cL_law.data.toList[p]? = some b := fq_l fd_16 e h
theorem fl_17 {p j : Nat} {b : UInt8} (e : p = 1088 + j) (h : fb_17[j]? = some b) : cL_law.data.toList[p]? = some b := fq_l fd_17 e h
theorem fl_18 {p j : Nat} {b : UInt8} (e : p = 1152 + j) (h : fb_18[j]? = some b) : cL_law.data.toList[p]? = some b := fq_l fd_18 e h
theorem fl_19 {p j : Nat} {b : UInt8} (e : p = 1216 + j) (h : fb_19[j]? = some b) : cL_law.data.toList[p]? = some b := fq_l fd_19 e h
theorem fl_20 {p j : Nat} {b : UInt8} (e : p = 1280 + j) (h : fb_20[j]? = some b) : cL_law.data.toList[p]? = some b := fq_l fd_20 e h
theorem fl_21 {p j : Nat} {b : UInt8} (e : p = 1344 + j) (h : fb_21[j]? = some b) : cL_law.data.toList[p]? = some b := fq_l fd_21 e h
theorem fl_22 {p j : Nat} {b : UInt8} (e : p = 1408 + j) (h : fb_22[j]? = some b) : cL_law.data.toList[p]? = some b := fq_l fd_22 e h
theorem fl_23 {p j : Nat} {b : UInt8} (e : p = 1472 + j) (h : fb_23[j]? = some b) : cL_law.data.toList[p]? = some b := fq_l fd_23 e h
theorem fl_24 {p j : Nat} {b : UInt8} (e : p = 1536 + j) (h : fb_24[j]? = some b) : cL_law.data.toList[p]? = some b := fq_l fd_24 e h
theorem fl_25 {p j : Nat} {b : UInt8} (e : p = 1600 + j) (h : fb_25[j]? = some b) : cL_law.data.toList[p]? = some b := fq_l fd_25 e h
theorem fl_26 {p j : Nat} {b : UInt8} (e : p = 1664 + j) (h : fb_26[j]? = some b) : cL_law.data.toList[p]? = some b := fq_l fd_26 e h
theorem fl_27 {p j : Nat} {b : UInt8} (e : p = 1728 + j) (h : fb_27[j]? = some b) : cL_law.data.toList[p]? = some b := fq_l fd_27 e h
theorem fl_28 {p j : Nat} {b : UInt8} (e : p = 1792 + j) (h : fb_28[j]? = some b) : cL_law.data.toList[p]? = some b := fq_l fd_28 e h
theorem fl_29 {p j : Nat} {b : UInt8} (e : p = 1856 + j) (h : fb_29[j]? = some b) : cL_law.data.toList[p]? = some b := fq_l fd_29 e h
theorem fl_30 {p j : Nat} {b : UInt8} (e : p = 1920 + j) (h : fb_30[j]? = some b) : cL_law.data.toList[p]? = some b := fq_l fd_30 e h
theorem fl_31 {p j : Nat} {b : UInt8} (e : p = 1984 + j) (h : fb_31[j]? = some b) : cL_law.data.toList[p]? = some b := fq_l fd_31 e h
theorem fl_32 {p j : Nat} {b : UInt8} (e : p = 2048 + j) (h : fb_32[j]? = some b) : cL_law.data.toList[p]? = some b := fq_l fd_32 e h
theorem fl_33 {p j : Nat} {b : UInt8} (e : p = 2112 + j) (h : fb_33[j]? = some b) : cL_law.data.toList[p]? = some b := fq_l fd_33 e h
theorem fl_34 {p j : Nat} {b : UInt8} (e : p = 2176 + j) (h : fb_34[j]? = some b) : cL_law.data.toList[p]? = some b := fq_l fd_34 e h
theorem fl_35 {p j : Nat} {b : UInt8} (e : p = 2240 + j) (h : fb_35[j]? = some b) : cL_law.data.toList[p]? = some b := fq_l fd_35 e h
theorem fl_36 {p j : Nat} {b : UInt8} (e : p = 2304 + j) (h : fb_36[j]? = some b) : cL_law.data.toList[p]? = some b := fq_l fd_36 e h
theorem fl_37 {p j : Nat} {b : UInt8} (e : p = 2368 + j) (h : fb_37[j]? = some b) : cL_law.data.toList[p]? = some b := fq_l fd_37 e h
theorem fl_38 {p j : Nat} {b : UInt8} (e : p = 2432 + j) (h : fb_38[j]? = some b) : cL_law.data.toList[p]? = some b := fq_l fd_38 e h
theorem fl_39 {p j : Nat} {b : UInt8} (e : p = 2496 + j) (h : fb_39[j]? = some b) : cL_law.data.toList[p]? = some b := fq_l fd_39 e h
theorem fl_40 {p j : Nat} {b : UInt8} (e : p = 2560 + j) (h : fb_40[j]? = some b) : cL_law.data.toList[p]? = some b := fq_l fd_40 e h
theorem fl_41 {p j : Nat} {b : UInt8} (e : p = 2624 + j) (h : fb_41[j]? = some b) : cL_law.data.toList[p]? = some b := fq_l fd_41 e h
theorem fl_42 {p j : Nat} {b : UInt8} (e : p = 2688 + j) (h : fb_42[j]? = some b) : cL_law.data.toList[p]? = some b := fq_l fd_42 e h
theorem fl_43 {p j : Nat} {b : UInt8} (e : p = 2752 + j) (h : fb_43[j]? = some b) : cL_law.data.toList[p]? = some b := fq_l fd_43 e h
theorem fl_44 {p j : Nat} {b : UInt8} (e : p = 2816 + j) (h : fb_44[j]? = some b) : cL_law.data.toList[p]? = some b := fq_l fd_44 e h
end
