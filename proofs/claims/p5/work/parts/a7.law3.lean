def R_law : String := "SlowWorldsLaw"
def lw_P (b : Addr) (xs : List Int32) (args : Array Value) (s : State) : Prop := args = #[.ref b] ∧ s.IntsAt b xs ∧ xs.length ≤ 3072 ∧ (Jvm.Cond.and given_1 narrow_1).before args s = true
def lw_Q (_ : Array Value) (s : State) (o : Outcome) (t : State) : Prop := o = .returned (some (.int 1)) ∧ Framed s o t [] 600000 7302250
def lw_Z (below : List Frame) (a : Array Value) (s : State) : State → Prop := fun t => ∃ o, t.status = .running ∧ Ended t below o ∧ lw_Q a s o t
/-- the law's own end, with 1 on the stack, nothing written that was there before, its room as the claim has it -/
theorem lw_ret {p : Program} {l : Launch} {e : Env} {s : State} {m : MethodId} {below : List Frame} {meth : Method} {c : Code} {b : Nat} (hx : p.tables.exec = Jvm.exec) (hb : c.code = code) (hr : meth.sig.returnType = ret) (hlocks : meth.locks = false) {pc : Nat} {H : Heap} {ls : Array Slot} (hdg : decode code pc = .ok (.ireturn, 1)) : W p l e room_1 s m #[Value.ref b] below meth c H [] 600000 7302250 (lw_Z below #[Value.ref b] s) (F0 m pc ls [.int 1]) := by
  intro T hT X
  obtain ⟨fs, hret, hrun, hended, hW, hframe⟩ := X.leave (v := some (.int 1)) (hlocks := hlocks) (fun h => by rw [hr] at h; cases h)
  have hmeth' : T.vm.method? m = some meth := X.method'
  refine ⟨T.setFrames fs, ?_, .returned (some (.int 1)), hrun, hended, rfl, ⟨_, rfl⟩, hW, hframe⟩
  jvm_step X.here [X.here.top, hx, hb, hdg, hmeth', hr, ret, narrow_b1]
  (try refine ⟨rfl, ?_⟩); (try refine ⟨rfl, ?_⟩)
  first | (intro acts; rw [hret _ acts rfl rfl rfl]) | rw [hret _ _ rfl rfl rfl]
  exact Steps.refl _
/-- what holds at the law's entry: the machine, the code, the tables' words (any of lw_tbl by 'hts w (by decide +kernel)'), the script of L ints xs at the cell b, what the Statement gives of the start (any of its parts by flat_of_before) -/
def lw_At (p : Program) (s : State) (m : MethodId) (meth : Method) (c : Code) (b L : Nat) (xs : Nat → Int32) : Prop :=
  p.tables.exec = Jvm.exec ∧ c.code = code ∧ meth.sig.returnType = ret ∧ c.maxLocals = 4 ∧ s.vm.findClass R_law = some m.cls ∧ (∀ w ∈ lw_tbl, w.before #[Value.ref b] s = true) ∧ va_X b L xs s s.heap ∧ b < s.heap.size ∧ meth.locks = false ∧ (Jvm.Cond.and given_1 narrow_1).before #[Value.ref b] s = true
theorem lroom (b : Bool) : 123 + cz true b ≤ room_1.cells ∧ 16705 + sz true b ≤ room_1.slots := by
  cases b
  · exact ⟨Nat.le_of_ble_eq_true rfl, Nat.le_of_ble_eq_true rfl⟩
  · exact ⟨Nat.le_of_ble_eq_true rfl, Nat.le_of_ble_eq_true rfl⟩
/-- what stays as it is while the law runs -/
def LFX (p : Program) (s : State) (m : MethodId) (meth : Method) (c : Code) (b L : Nat) (xs : Nat → Int32) (A : Nat → Prop) (D : va_G) (k : Nat → ClassId) (sa sv : Nat) : Prop :=
  p.tables.exec = Jvm.exec ∧ c.code = code ∧ meth.sig.returnType = ret ∧ c.maxLocals = 4 ∧ s.vm.findClass R_law = some m.cls ∧ (∀ w ∈ gw, w.before #[Value.ref b] s = true) ∧ KK D k s ∧ va_X b L xs s s.heap ∧ b < s.heap.size ∧ ¬ A b ∧ (∀ q : Nat, s.heap.size ≤ q → A q) ∧ (∀ q : Nat, A q → s.heap.size ≤ q) ∧ meth.locks = false ∧ SY sa sv keyF A s s.heap ∧ vk_R RX12 175 keyT sa s ∧ L ≤ 3072
/-- the law at a place: the world stands, i is in its local -/
def LAT (p : Program) (l : Launch) (e : Env) (s : State) (m : MethodId) (below : List Frame) (meth : Method) (c : Code) (b : Nat) (A : Nat → Prop) (D : va_G) (k : Nat → ClassId) (pc : Nat) (i : Int) : Prop :=
  ∀ (a : Nat → Nat) (I : Nat → Int) (Lg : Nat → Int64) (F : Nat → Nat → Int32) (G : Nat → Nat → Int64) (V : Nat → Value) (r : Ry) (H : Heap) (locs : List Loc) (ls : Array Slot), INV I F → RT k r → va_P D vwCl (WLL k a I Lg F G V r ++ r.tl) H → va_D A (WLL k a I Lg F G V r ++ r.tl) → va_S A s.heap H locs → lv_has ls 4 [(3, .int (iZ i)), (2, .ref (a 106)), (1, .ref (a 0)), (0, .ref b)] → W p l e room_1 s m #[Value.ref b] below meth c H locs (123 + cz true r.b) (16705 + sz true r.b) (lw_Z below #[Value.ref b] s) (F0 m pc ls [])
def pick (ws : va_W) (is : List Nat) : va_W := is.filterMap (fun i => ws[i]?)
section CX2
variable {p : Program} {l : Launch} {e : Env} {R : Room} {s : State} {m : MethodId} {args : Array Value} {below : List Frame} {meth : Method} {c : Code} {H : Heap} {locs : List Loc} {Q : State → Prop} {D : va_G} {k : Nat → ClassId} {A : Nat → Prop} {b0 : Bool} {r : Ry}
variable {y : MethodName} {bytes cc : ByteArray} {maxL nL n index j pc b ci N : Nat} {ret : Option FieldType} {own : String} {As rest st : List Value} {ls : Array Slot} {wc wr ws : va_W} {T : u_T} {fs : List Value} {σ : Type} {ry : σ → Ry} {val : σ → Option Value} {φ : σ → Prop} {post : σ → va_W}
theorem CKV2 {cells slots : Nat} {tl : va_W} (hx : p.tables.exec = Jvm.exec) (hb : c.code = cc) (hml : c.maxLocals = nL) (hown : s.vm.findClass own = some m.cls) (hts : ∀ w ∈ gw, w.before args s = true) (hK : KK D k s) (hP : va_P D vwCl (ws ++ tl) H) (hD : va_D A (ws ++ tl)) (hS : va_S A s.heap H locs) (hA : ∀ q : Nat, s.heap.size ≤ q → A q) (hM : WD l y bytes maxL ret j 0 0 D k (.ref b :: As) wc val φ post) (cI : CIv y bytes maxL ret n) (hlink : Cond.methodLink own index y ∈ gw) (hR : j + 1 ≤ R.frames ∧ 8 + (maxL + 11) + 40 * j ≤ R.locals) (hce : cells ≤ R.cells ∧ slots ≤ R.slots)
    (isC isR : List Nat) (hC : isC.map (fun i => ws[i]?) = wc.map some) (hC2 : isC.filterMap (fun i => ws[i]?) = wc) (hRr : isR.map (fun i => ws[i]?) = (pick ws isR).map some) (hnC : va_nd isC = true) (hnR : va_nd isR = true) (hdis : ∀ i ∈ isR, i ∉ isC)
    (q0 : Nat) (he : wc[q0]? = some (b, .inr (ci, fs))) (hc : vwCl[ci]? = some (y.cls, T, N)) (hn : As.length = n) (hsz : ls.size = nL) (hst : st = As.reverse ++ .ref b :: rest) (hW : (rest.map fun v => v.category).sum ≤ 8) (hdg : decode cc pc = .ok (.invokevirtual index, 3))
    (kk : ∀ (u : σ) (H1 : Heap) (locs1 : List Loc), φ u → va_P D vwCl ((pick ws isR ++ post u) ++ tl) H1 → va_D A ((pick ws isR ++ post u) ++ tl) → va_S A s.heap H1 locs1 → W p l e R s m args below meth c H1 locs1 cells slots Q (F0 m (pc + 3) ls ((val u).toList ++ rest))) : W p l e R s m args below meth c H locs cells slots Q (F0 m pc ls st) :=
  CKV (wr := pick ws isR) hx hb hml hown hts hK hP hD hS hA hM cI hlink hR hce isC isR hC hC2 hRr hnC hnR hdis q0 he hc hn hsz hst hW hdg kk
end CX2
section LR2
variable {p : Program} {l : Launch} {e : Env} {R : Room} {s : State} {m : MethodId} {args : Array Value} {below : List Frame} {meth : Method} {c : Code} {H : Heap} {locs : List Loc} {pc : Nat} {D : va_G} {A : Nat → Prop} {cc : ByteArray} {ls : Array Slot} {σ : Type} {ry : σ → Ry} {val : σ → Option Value} {φ : σ → Prop} {post : σ → va_W} {k : Nat → ClassId} {r : Ry} {Q : State → Prop}
variable {y : MethodName} {bytes : ByteArray} {maxL nL n index j b ci N c0 s0 : Nat} {ret : Option FieldType} {own : String} {As rest st : List Value} {wc wr ws : va_W} {T : u_T} {fs : List Value}
theorem CXL2 (hx : p.tables.exec = Jvm.exec) (hb : c.code = cc) (hml : c.maxLocals = nL) (hown : s.vm.findClass own = some m.cls) (hts : ∀ w ∈ gw, w.before args s = true) (hK : KK D k s) (hP : va_P D vwCl (ws ++ r.tl) H) (hD : va_D A (ws ++ r.tl)) (hS : va_S A s.heap H locs) (hA : ∀ q : Nat, s.heap.size ≤ q → A q) (hM : XD l y bytes maxL ret j r D k (.ref b :: As) wc ry val φ post) (cI : CIv y bytes maxL ret n) (hlink : Cond.methodLink own index y ∈ gw) (hR : j + 1 ≤ R.frames ∧ 8 + (maxL + 11) + 40 * j ≤ R.locals) (hce : c0 + 2 ≤ R.cells ∧ s0 + 28872 ≤ R.slots)
    (isC isR : List Nat) (hC : isC.map (fun i => ws[i]?) = wc.map some) (hC2 : isC.filterMap (fun i => ws[i]?) = wc) (hRr : isR.map (fun i => ws[i]?) = (pick ws isR).map some) (hnC : va_nd isC = true) (hnR : va_nd isR = true) (hdis : ∀ i ∈ isR, i ∉ isC)
    (q0 : Nat) (he : wc[q0]? = some (b, .inr (ci, fs))) (hc : vwCl[ci]? = some (y.cls, T, N)) (hn : As.length = n) (hsz : ls.size = nL) (hst : st = As.reverse ++ .ref b :: rest) (hW : (rest.map fun v => v.category).sum ≤ 8) (hdg : decode cc pc = .ok (.invokevirtual index, 3))
    (kk : ∀ (u : σ) (H1 : Heap) (locs1 : List Loc), φ u → va_P D vwCl (pick ws isR ++ (post u ++ (ry u).tl)) H1 → va_D A (pick ws isR ++ (post u ++ (ry u).tl)) → va_S A s.heap H1 locs1 → W p l e R s m args below meth c H1 locs1 (c0 + cz true (ry u).b) (s0 + sz true (ry u).b) Q (F0 m (pc + 3) ls ((val u).toList ++ rest))) : W p l e R s m args below meth c H locs (c0 + cz true r.b) (s0 + sz true r.b) Q (F0 m pc ls st) :=
  CXL (wr := pick ws isR) hx hb hml hown hts hK hP hD hS hA hM cI hlink hR hce isC isR hC hC2 hRr hnC hnR hdis q0 he hc hn hsz hst hW hdg kk
theorem CKSV2 {cells slots : Nat} {tl : va_W} {sa sv : Nat} (hx : p.tables.exec = Jvm.exec) (hb : c.code = cc) (hml : c.maxLocals = nL) (hown : s.vm.findClass own = some m.cls) (hts : ∀ w ∈ gw, w.before args s = true) (hK : KK D k s) (hP : va_P D vwCl (ws ++ tl) H) (hD : va_D A (ws ++ tl)) (hS : va_S A s.heap H locs) (hA : ∀ q : Nat, s.heap.size ≤ q → A q) (hSY : SY sa sv keyF A s s.heap) (hRR : vk_R RX12 175 keyT sa s) (hM : SD sa sv l y bytes maxL ret j D k (.ref b :: As) wc val φ post) (cI : CIv y bytes maxL ret n) (hlink : Cond.methodLink own index y ∈ gw) (hR : j + 1 ≤ R.frames ∧ 8 + (maxL + 11) + 40 * j ≤ R.locals) (hce : cells ≤ R.cells ∧ slots ≤ R.slots)
    (isC isR : List Nat) (hC : isC.map (fun i => ws[i]?) = wc.map some) (hC2 : isC.filterMap (fun i => ws[i]?) = wc) (hRr : isR.map (fun i => ws[i]?) = (pick ws isR).map some) (hnC : va_nd isC = true) (hnR : va_nd isR = true) (hdis : ∀ i ∈ isR, i ∉ isC)
    (q0 : Nat) (he : wc[q0]? = some (b, .inr (ci, fs))) (hc : vwCl[ci]? = some (y.cls, T, N)) (hn : As.length = n) (hsz : ls.size = nL) (hst : st = As.reverse ++ .ref b :: rest) (hW : (rest.map fun v => v.category).sum ≤ 8) (hdg : decode cc pc = .ok (.invokevirtual index, 3))
    (kk : ∀ (u : σ) (H1 : Heap) (locs1 : List Loc), φ u → va_P D vwCl ((pick ws isR ++ post u) ++ tl) H1 → va_D A ((pick ws isR ++ post u) ++ tl) → va_S A s.heap H1 locs1 → W p l e R s m args below meth c H1 locs1 cells slots Q (F0 m (pc + 3) ls ((val u).toList ++ rest))) : W p l e R s m args below meth c H locs cells slots Q (F0 m pc ls st) :=
  CKSV (wr := pick ws isR) hx hb hml hown hts hK hP hD hS hA hSY hRR hM cI hlink hR hce isC isR hC hC2 hRr hnC hnR hdis q0 he hc hn hsz hst hW hdg kk
end LR2
