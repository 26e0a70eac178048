/-- what was there keeps its size -/
def SS (st t : State) : Prop := ∀ (q : Nat) (c : Cell), st.heap[q]? = some c → ∃ c' : Cell, t.heap[q]? = some c' ∧ c'.slots.size = c.slots.size
theorem Met.ss {l : Launch} {y : MethodName} {ws : List Cond} {rm : Room} {Pc : Array Value → State → Prop} {Qc : Array Value → State → Outcome → State → Prop} {mc ms : Nat} {free : Addr → Prop} (h : Met l y ws rm Pc Qc mc ms free) : Met l y ws rm Pc (fun a st o t => Qc a st o t ∧ SS st t) mc ms free := by
  intro p e ha hc hk s m args below hf happ hp hk'
  obtain ⟨n, o, h1, h2, h3, h4, L, h5, h6⟩ := h p e ha hc hk s m args below hf happ hp hk'
  refine ⟨n, o, h1, h2, h3, ⟨h4, fun q c hq => ?_⟩, L, h5, h6⟩
  obtain ⟨-, -, -, -, -, -, -, h7⟩ := h5
  obtain ⟨c', g1, -, g2, -⟩ := h7 q c hq
  exact ⟨c', g1, g2⟩
section LR
variable {p : Program} {l : Launch} {e : Env} {R : Room} {s : State} {m : MethodId} {args : Array Value} {below : List Frame} {meth : Method} {c : Code} {H : Heap} {locs : List Loc} {pc : Nat} {D : va_G} {A : Nat → Prop} {cc : ByteArray} {ls : Array Slot} {σ : Type} {ry : σ → Ry} {val : σ → Option Value} {φ : σ → Prop} {post : σ → va_W} {k : Nat → ClassId} {r : Ry} {Q : State → Prop}
variable {y : MethodName} {bytes : ByteArray} {maxL nL n index j b ci N c0 s0 : Nat} {ret : Option FieldType} {own : String} {As rest st : List Value} {wc wr ws : va_W} {T : u_T} {fs : List Value}
theorem stand_tight2 {T T' : State} {locs' : List Loc} {c1 s1 : Nat} (X : Stand p l e R s m args below meth c T locs c0 s0) (X' : Stand p l e R s m args below meth c T' locs' c1 s1) (hs : T'.heap.size = T.heap.size) (hq : ∀ (q : Nat) (d : Cell), T.heap[q]? = some d → ∃ d' : Cell, T'.heap[q]? = some d' ∧ d'.slots.size = d.slots.size) : Stand p l e R s m args below meth c T' locs' c0 s0 := by
  obtain ⟨-, -, a3, -, a5, -⟩ := X.same
  obtain ⟨h1, h2, h3, h4, h5, h6⟩ := X'.same
  have a3' : T.heap.size ≤ s.heap.size + c0 := a3
  have e1 : (T'.heap.toList.drop s.heap.size).map (fun d => d.slots.size) = (T.heap.toList.drop s.heap.size).map (fun d => d.slots.size) := by
    apply List.ext_getElem?
    intro i
    rw [List.getElem?_map, List.getElem?_map, List.getElem?_drop, List.getElem?_drop, Array.getElem?_toList, Array.getElem?_toList]
    cases h : T.heap[s.heap.size + i]? with
    | none =>
      have hn : T.heap.size ≤ s.heap.size + i := Array.getElem?_eq_none_iff.mp h
      rw [Array.getElem?_eq_none (by omega)]
    | some d =>
      obtain ⟨d', g1, g2⟩ := hq _ d h
      rw [g1]
      show some d'.slots.size = some d.slots.size
      rw [g2]
  have e2 : (((T'.setVm s.vm).heap.toList.drop s.heap.size).map (fun d => d.slots.size)) = (((T.setVm s.vm).heap.toList.drop s.heap.size).map (fun d => d.slots.size)) := e1
  exact { X' with same := ⟨h1, h2, by show T'.heap.size ≤ s.heap.size + c0; omega, h4, by rw [e2]; exact a5, h6⟩ }
theorem callXL {A0 A1 : Nat → Prop} {a : Array Value} {free : Addr → Prop} {bb : Bool} (hr : va_Run p l e R s m args below meth c H locs (c0 + cz true bb) (s0 + sz true bb) (rcN bb) (rsN bb) (F0 m pc ls st) rest (fun st' o' t' => QX bb ry val φ post D A1 a st' o' t' ∧ SS st' t') free) (hsz : va_S A0 s.heap H locs) (hA : ∀ q, q < H.size → A1 q → A0 q) (hf : ∀ q, free q → A0 q)
    (kk : ∀ (u : σ) (H1 : Heap) (locs1 : List Loc), φ u → va_P D vwCl (post u ++ (ry u).tl) H1 → va_D A1 (post u ++ (ry u).tl) → (∀ q : Nat, q < H.size → ¬ A1 q → H1[q]? = H[q]?) → va_S A0 s.heap H1 locs1 → W p l e R s m args below meth c H1 locs1 (c0 + cz true (ry u).b) (s0 + sz true (ry u).b) Q (F0 m (pc + 3) ls ((val u).toList ++ rest))) : W p l e R s m args below meth c H locs (c0 + cz true bb) (s0 + sz true bb) Q (F0 m pc ls st) := by
  intro T hT X
  obtain ⟨v, st₀, t, T', L, h0, X', hL, e1, e2, ⟨⟨⟨u, hv, hp, hb, hd, hc⟩, hz, hk⟩, hss⟩, st⟩ := hr T hT X
  cases hv
  rw [h0] at hz hk hc
  rw [← e1] at hb
  have X2 : Stand p l e R s m args below meth c T' (locs ++ L) (c0 + cz true (ry u).b) (s0 + sz true (ry u).b) := by
    cases hub : (ry u).b with
    | true =>
      obtain ⟨g1, g2⟩ := hc hub
      subst g1
      refine stand_tight2 X X' (by rw [e1, g2, hT]) (fun q d hq => ?_)
      rw [hT, ← h0] at hq
      obtain ⟨d', q1, q2⟩ := hss q d hq
      exact ⟨d', by rw [e1]; exact q1, q2⟩
    | false =>
      refine stand_widen X' ?_ ?_
      · cases bb with
        | true => show c0 + 0 + 2 ≤ c0 + 2; omega
        | false => show c0 + 2 + 0 ≤ c0 + 2; omega
      · cases bb with
        | true => show s0 + 0 + 28872 ≤ s0 + 28872; omega
        | false => show s0 + 28872 + 0 ≤ s0 + 28872; omega
  obtain ⟨t2, a1, b1⟩ := kk u T'.heap (locs ++ L) hp hb hd (fun q h1 h2 => by rw [e1]; exact hk q h1 h2)
    ⟨Nat.le_trans hsz.1 (by rw [e1]; exact hz), fun q h1 h2 => by rw [e1, hk q (Nat.lt_of_lt_of_le h1 hsz.1) (fun z => h2 (hA q (Nat.lt_of_lt_of_le h1 hsz.1) z))]; exact hsz.2.1 q h1 h2, fun q hq => by
      rcases List.mem_append.mp hq with h | h
      · exact hsz.2.2 q h
      · exact hf _ (hL q h)⟩ T' rfl X2
  exact ⟨t2, st t2 a1, b1⟩
theorem CXL (hx : p.tables.exec = Jvm.exec) (hb : c.code = cc) (hml : c.maxLocals = nL) (hown : s.vm.findClass own = some m.cls) (hts : ∀ w ∈ gw, w.before args s = true) (hK : KK D k s) (hP : va_P D vwCl (ws ++ r.tl) H) (hD : va_D A (ws ++ r.tl)) (hS : va_S A s.heap H locs) (hA : ∀ q : Nat, s.heap.size ≤ q → A q) (hM : XD l y bytes maxL ret j r D k (.ref b :: As) wc ry val φ post) (cI : CIv y bytes maxL ret n) (hlink : Cond.methodLink own index y ∈ gw) (hR : j + 1 ≤ R.frames ∧ 8 + (maxL + 11) + 40 * j ≤ R.locals) (hce : c0 + 2 ≤ R.cells ∧ s0 + 28872 ≤ R.slots)
    (isC isR : List Nat) (hC : isC.map (fun i => ws[i]?) = wc.map some) (hC2 : isC.filterMap (fun i => ws[i]?) = wc) (hRr : isR.map (fun i => ws[i]?) = wr.map some) (hnC : va_nd isC = true) (hnR : va_nd isR = true) (hdis : ∀ i ∈ isR, i ∉ isC)
    (q0 : Nat) (he : wc[q0]? = some (b, .inr (ci, fs))) (hc : vwCl[ci]? = some (y.cls, T, N)) (hn : As.length = n) (hsz : ls.size = nL) (hst : st = As.reverse ++ .ref b :: rest) (hW : (rest.map fun v => v.category).sum ≤ 8) (hdg : decode cc pc = .ok (.invokevirtual index, 3))
    (kk : ∀ (u : σ) (H1 : Heap) (locs1 : List Loc), φ u → va_P D vwCl (wr ++ (post u ++ (ry u).tl)) H1 → va_D A (wr ++ (post u ++ (ry u).tl)) → va_S A s.heap H1 locs1 → W p l e R s m args below meth c H1 locs1 (c0 + cz true (ry u).b) (s0 + sz true (ry u).b) Q (F0 m (pc + 3) ls ((val u).toList ++ rest))) : W p l e R s m args below meth c H locs (c0 + cz true r.b) (s0 + sz true r.b) Q (F0 m pc ls st) := by
  have hPc := hP.subT isC hC2
  have hDc := hD.subT isC hnC hC
  have hFc := free_tail hD hS hA isC hC
  have hce2 : c0 + cz true r.b + rcN r.b ≤ R.cells ∧ s0 + sz true r.b + rsN r.b ≤ R.slots := by
    cases r.b with
    | true => exact ⟨Nat.le_trans (show c0 + 0 + 2 ≤ c0 + 2 by omega) hce.1, Nat.le_trans (show s0 + 0 + 28872 ≤ s0 + 28872 by omega) hce.2⟩
    | false => exact ⟨Nat.le_trans (show c0 + 2 + 0 ≤ c0 + 2 by omega) hce.1, Nat.le_trans (show s0 + 28872 + 0 ≤ s0 + 28872 by omega) hce.2⟩
  refine callXL (va_runV (As := As) (rest := rest) (b := b) ⟨hx, hb, hml, hown, hts⟩ (Met.ss (hM H.size)) (cwVx hts cI hlink hR) ⟨PW.blind, va_recv hK.1 hPc.spl.1 hc he, fun U hU hW => ⟨rfl, by rw [hU], by rw [hU]; exact hPc, hK.warm hW, hDc.weaken (fun _ _ _ _ => trivial)⟩⟩ rfl hn hsz hst (lv_room hW) hdg hce2) hS (fun q _ h => hFc q h) hFc (fun u H1 locs1 hφ hP1 hD1 hk1 hS1 => ?_)
  obtain ⟨g1, g2⟩ := join_tail hP hD isC isR hC hRr hnR hdis hk1 hFc hP1 hD1
  exact kk u H1 locs1 hφ g1 g2 hS1
theorem CKSV {cells slots : Nat} {tl : va_W} {sa sv : Nat} (hx : p.tables.exec = Jvm.exec) (hb : c.code = cc) (hml : c.maxLocals = nL) (hown : s.vm.findClass own = some m.cls) (hts : ∀ w ∈ gw, w.before args s = true) (hK : KK D k s) (hP : va_P D vwCl (ws ++ tl) H) (hD : va_D A (ws ++ tl)) (hS : va_S A s.heap H locs) (hA : ∀ q : Nat, s.heap.size ≤ q → A q) (hSY : SY sa sv keyF A s s.heap) (hRR : vk_R RX12 175 keyT sa s) (hM : SD sa sv l y bytes maxL ret j D k (.ref b :: As) wc val φ post) (cI : CIv y bytes maxL ret n) (hlink : Cond.methodLink own index y ∈ gw) (hR : j + 1 ≤ R.frames ∧ 8 + (maxL + 11) + 40 * j ≤ R.locals) (hce : cells ≤ R.cells ∧ slots ≤ R.slots)
    (isC isR : List Nat) (hC : isC.map (fun i => ws[i]?) = wc.map some) (hC2 : isC.filterMap (fun i => ws[i]?) = wc) (hRr : isR.map (fun i => ws[i]?) = wr.map some) (hnC : va_nd isC = true) (hnR : va_nd isR = true) (hdis : ∀ i ∈ isR, i ∉ isC)
    (q0 : Nat) (he : wc[q0]? = some (b, .inr (ci, fs))) (hc : vwCl[ci]? = some (y.cls, T, N)) (hn : As.length = n) (hsz : ls.size = nL) (hst : st = As.reverse ++ .ref b :: rest) (hW : (rest.map fun v => v.category).sum ≤ 8) (hdg : decode cc pc = .ok (.invokevirtual index, 3))
    (kk : ∀ (u : σ) (H1 : Heap) (locs1 : List Loc), φ u → va_P D vwCl ((wr ++ post u) ++ tl) H1 → va_D A ((wr ++ post u) ++ tl) → va_S A s.heap H1 locs1 → W p l e R s m args below meth c H1 locs1 cells slots Q (F0 m (pc + 3) ls ((val u).toList ++ rest))) : W p l e R s m args below meth c H locs cells slots Q (F0 m pc ls st) := by
  have hPc := hP.spl.1.sub isC hC2
  have hDc := hD.spl.1.sub isC hnC hC
  have hFc := va_free hD.spl.1 hS hA isC hC
  have hSc : SY sa sv keyF (va_A wc H.size) s H := (hSY.kept hS.2.1).narrow hFc
  refine callW (va_runV (As := As) (rest := rest) (b := b) ⟨hx, hb, hml, hown, hts⟩ (hM H.size) (cwVx hts cI hlink hR) ⟨PSm.blind, va_recv hK.1 hPc hc he, fun U hU hW => ⟨rfl, by rw [hU], by rw [hU]; exact hPc, hK.warm hW, hDc.weaken (fun _ _ _ _ => trivial), by rw [hU]; exact hSc.moved hW.alike, vk_R.warm hW hRR⟩⟩ rfl hn hsz hst (lv_room hW) hdg hce) hS (fun q _ h => hFc q h) hFc (fun u H1 locs1 hφ hP1 hD1 hk1 hS1 => ?_)
  obtain ⟨g1, g2⟩ := join_keep hP hD isC isR hC hRr hnR hdis hk1 hFc hP1 hD1
  exact kk u H1 locs1 hφ g1 g2 hS1
end LR
