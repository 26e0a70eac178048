def pick (ws : va_W) (is : List Nat) : va_W := is.filterMap (fun i => ws[i]?)
theorem va_D.sp {A : Nat → Prop} {a b : va_W} (h : va_D A (a ++ b)) : va_D A a ∧ va_D A b ∧ ∀ p ∈ a, ∀ q ∈ b, p.1 ≠ q.1 := by
  obtain ⟨h1, h2, h3⟩ := h.spl
  refine ⟨h1, h2, fun p hp q hq => ?_⟩
  obtain ⟨i, hi⟩ := List.getElem?_of_mem hp
  obtain ⟨j, hj⟩ := List.getElem?_of_mem hq
  exact h3 i j p q hi hj
theorem va_D.ap {A : Nat → Prop} {a b : va_W} (h1 : va_D A a) (h2 : va_D A b) (h : ∀ p ∈ a, ∀ q ∈ b, p.1 ≠ q.1) : va_D A (a ++ b) := va_D.app h1 h2 (fun _ _ p q hp hq => h p (List.mem_of_getElem? hp) q (List.mem_of_getElem? hq))
/-- a world stands and its addresses are apart -/
def PD (D : va_G) (A : Nat → Prop) (ws : va_W) (H : Heap) : Prop := va_P D vwCl ws H ∧ va_D A ws
theorem fmap_some {α β : Type} {f : α → Option β} : ∀ {l : List α} {y : List β}, l.map f = y.map some → l.filterMap f = y
  | [], [], _ => rfl
  | [], _ :: _, h => by cases h
  | a :: l, [], h => by cases h
  | a :: l, b :: y, h => by
    have h1 : f a = some b := (List.cons.inj h).1
    have h2 := fmap_some (List.cons.inj h).2
    rw [List.filterMap_cons, h1, h2]
section PDS
variable {D : va_G} {A : Nat → Prop} {H : Heap} {x y z u v t m m' : va_W}
theorem mem_sw {q : Nat × va_E} (h : q ∈ y ++ (x ++ z)) : q ∈ x ++ (y ++ z) := by
  rcases List.mem_append.mp h with g | g
  · exact List.mem_append_right _ (List.mem_append_left _ g)
  · rcases List.mem_append.mp g with g | g
    · exact List.mem_append_left _ g
    · exact List.mem_append_right _ (List.mem_append_right _ g)
theorem PD.swap (h : PD D A (x ++ (y ++ z)) H) : PD D A (y ++ (x ++ z)) H := by
  obtain ⟨hP, hD⟩ := h
  obtain ⟨dx, d2, c1⟩ := hD.sp
  obtain ⟨dy, dz, c2⟩ := d2.sp
  refine ⟨hP.spl.2.spl.1.app (hP.spl.1.app hP.spl.2.spl.2), va_D.ap dy (va_D.ap dx dz (fun p hp q hq => c1 p hp q (List.mem_append_right _ hq))) (fun p hp q hq => ?_)⟩
  rcases List.mem_append.mp hq with g | g
  · exact fun e => c1 q g p (List.mem_append_left _ hp) e.symm
  · exact c2 p hp q g
theorem PD.cong (h : PD D A (x ++ m) H) (f : PD D A m H → PD D A m' H) (hm : ∀ q ∈ m', q ∈ m) : PD D A (x ++ m') H := by
  obtain ⟨hP, hD⟩ := h
  obtain ⟨dx, dm, c1⟩ := hD.sp
  obtain ⟨g1, g2⟩ := f ⟨hP.spl.2, dm⟩
  exact ⟨hP.spl.1.app g1, va_D.ap dx g2 (fun p hp q hq => c1 p hp q (hm q hq))⟩
theorem PD.mem_eq (h : ∀ q, q ∈ m' → q ∈ m) (q : Nat × va_E) (hq : q ∈ x ++ m') : q ∈ x ++ m := by
  rcases List.mem_append.mp hq with g | g
  · exact List.mem_append_left _ g
  · exact List.mem_append_right _ (h q g)
theorem PD.fr3 (h : PD D A (x ++ (y ++ (z ++ t))) H) : PD D A (z ++ (x ++ (y ++ t))) H := PD.swap (PD.cong h PD.swap (fun _ hq => mem_sw hq))
theorem mem_f3 {q : Nat × va_E} (h : q ∈ z ++ (x ++ (y ++ t))) : q ∈ x ++ (y ++ (z ++ t)) := PD.mem_eq (fun _ g => mem_sw g) q (mem_sw h)
theorem PD.fr4 (h : PD D A (x ++ (y ++ (z ++ (u ++ t)))) H) : PD D A (u ++ (x ++ (y ++ (z ++ t)))) H := PD.swap (PD.cong h PD.fr3 (fun _ hq => mem_f3 hq))
theorem mem_f4 {q : Nat × va_E} (h : q ∈ u ++ (x ++ (y ++ (z ++ t)))) : q ∈ x ++ (y ++ (z ++ (u ++ t))) := PD.mem_eq (fun _ g => mem_f3 g) q (mem_sw h)
theorem PD.fr5 (h : PD D A (x ++ (y ++ (z ++ (u ++ (v ++ t))))) H) : PD D A (v ++ (x ++ (y ++ (z ++ (u ++ t))))) H := PD.swap (PD.cong h PD.fr4 (fun _ hq => mem_f4 hq))
/-- the first part by its places -/
theorem PD.by {is : List Nat} (h : PD D A (x ++ t) H) (hn : va_nd is = true) (hs : is.map (fun i => x[i]?) = y.map some) (hs2 : is.filterMap (fun i => x[i]?) = y) : PD D A (y ++ t) H := ⟨h.1.subT is hs2, h.2.subT is hn hs⟩
theorem PD.by2 {is : List Nat} (h : PD D A (x ++ t) H) (hn : va_nd is = true) (hs : is.map (fun i => x[i]?) = y.map some) : PD D A (y ++ t) H := PD.by h hn hs (fmap_some hs)
theorem PD.as2 (h : PD D A ((x ++ y) ++ t) H) : PD D A (x ++ (y ++ t)) H := by rw [List.append_assoc] at h; exact h
theorem PD.as3 (h : PD D A ((x ++ (y ++ z)) ++ t) H) : PD D A (x ++ (y ++ (z ++ t))) H := by rw [List.append_assoc, List.append_assoc] at h; exact h
theorem PD.as4 (h : PD D A ((x ++ (y ++ (z ++ u))) ++ t) H) : PD D A (x ++ (y ++ (z ++ (u ++ t)))) H := by rw [List.append_assoc, List.append_assoc, List.append_assoc] at h; exact h
theorem PD.as5 (h : PD D A ((x ++ (y ++ (z ++ (u ++ v)))) ++ t) H) : PD D A (x ++ (y ++ (z ++ (u ++ (v ++ t))))) H := by rw [List.append_assoc, List.append_assoc, List.append_assoc, List.append_assoc] at h; exact h
theorem PD.sa2 (h : PD D A (x ++ (y ++ t)) H) : PD D A ((x ++ y) ++ t) H := by rw [List.append_assoc]; exact h
theorem PD.sa3 (h : PD D A (x ++ (y ++ (z ++ t))) H) : PD D A ((x ++ (y ++ z)) ++ t) H := by rw [List.append_assoc, List.append_assoc]; exact h
theorem PD.sa4 (h : PD D A (x ++ (y ++ (z ++ (u ++ t)))) H) : PD D A ((x ++ (y ++ (z ++ u))) ++ t) H := by rw [List.append_assoc, List.append_assoc, List.append_assoc]; exact h
theorem PD.sa5 (h : PD D A (x ++ (y ++ (z ++ (u ++ (v ++ t))))) H) : PD D A ((x ++ (y ++ (z ++ (u ++ v)))) ++ t) H := by rw [List.append_assoc, List.append_assoc, List.append_assoc, List.append_assoc]; exact h
theorem PD.as (h : PD D A ((x ++ y) ++ t) H) : PD D A (x ++ (y ++ t)) H := by rw [List.append_assoc] at h; exact h
theorem PD.as' (h : PD D A (x ++ (y ++ t)) H) : PD D A ((x ++ y) ++ t) H := by rw [List.append_assoc]; exact h
theorem PD.mid1 (h : PD D A (x ++ (y ++ t)) H) : PD D A (x ++ (y ++ t)) H := h
theorem PD.mid2 (h : PD D A (x ++ (y ++ (z ++ t))) H) : PD D A (x ++ ((y ++ z) ++ t)) H := by rw [List.append_assoc]; exact h
theorem PD.mid3 (h : PD D A (x ++ (y ++ (z ++ (u ++ t)))) H) : PD D A (x ++ ((y ++ (z ++ u)) ++ t)) H := by rw [List.append_assoc, List.append_assoc]; exact h
theorem PD.mid4 (h : PD D A (x ++ (y ++ (z ++ (u ++ (v ++ t))))) H) : PD D A (x ++ ((y ++ (z ++ (u ++ v))) ++ t)) H := by rw [List.append_assoc, List.append_assoc, List.append_assoc]; exact h
theorem PD.dim1 (h : PD D A (x ++ (y ++ t)) H) : PD D A (x ++ (y ++ t)) H := h
theorem PD.dim2 (h : PD D A (x ++ ((y ++ z) ++ t)) H) : PD D A (x ++ (y ++ (z ++ t))) H := by rw [List.append_assoc] at h; exact h
theorem PD.dim3 (h : PD D A (x ++ ((y ++ (z ++ u)) ++ t)) H) : PD D A (x ++ (y ++ (z ++ (u ++ t)))) H := by rw [List.append_assoc, List.append_assoc] at h; exact h
theorem PD.dim4 (h : PD D A (x ++ ((y ++ (z ++ (u ++ v))) ++ t)) H) : PD D A (x ++ (y ++ (z ++ (u ++ (v ++ t))))) H := by rw [List.append_assoc, List.append_assoc, List.append_assoc] at h; exact h
end PDS
theorem join_mid {A0 : Nat → Prop} {D : va_G} {ws mid tl wc wr w0 tl' : va_W} {H H1 : Heap} (hP : va_P D vwCl (mid ++ (ws ++ tl)) H) (hD : va_D A0 (mid ++ (ws ++ tl))) (isC isR : List Nat) (hC : isC.map (fun i => ws[i]?) = wc.map some) (hR : isR.map (fun i => ws[i]?) = wr.map some) (hn : va_nd isR = true) (hdis : ∀ i ∈ isR, i ∉ isC)
    (hk : ∀ q : Nat, q < H.size → ¬ va_A (wc ++ tl) H.size q → H1[q]? = H[q]?) (hF : ∀ q, va_A (wc ++ tl) H.size q → A0 q) (hP1 : va_P D vwCl (w0 ++ tl') H1) (hD1 : va_D (va_A (wc ++ tl) H.size) (w0 ++ tl')) : va_P D vwCl ((wr ++ w0) ++ (mid ++ tl')) H1 ∧ va_D A0 ((wr ++ w0) ++ (mid ++ tl')) := by
  obtain ⟨dm, dw, cr⟩ := hD.sp
  obtain ⟨g1, g2⟩ := join_tail hP.spl.2 dw isC isR hC hR hn hdis hk hF hP1 hD1
  have apart : ∀ p ∈ mid, p.1 < H.size ∧ ¬ va_A (wc ++ tl) H.size p.1 := by
    intro p hp
    obtain ⟨i, hi⟩ := List.getElem?_of_mem hp
    have hl := (hP.spl.1 i p hi).lt
    refine ⟨hl, fun h => ?_⟩
    rcases h with ⟨k2, e, h⟩ | h
    · by_cases hk2 : k2 < wc.length
      · rw [List.getElem?_append_left hk2] at h
        obtain ⟨j, -, h4⟩ := at_of hC k2 (p.1, e) h
        exact cr p hp (p.1, e) (List.mem_append_left _ (List.mem_of_getElem? h4)) rfl
      · rw [List.getElem?_append_right (by omega)] at h
        exact cr p hp (p.1, e) (List.mem_append_right _ (List.mem_of_getElem? h)) rfl
    · omega
  have hPm : va_P D vwCl mid H1 := fun i p hi => (hP.spl.1 i p hi).kept (hk p.1 (apart p (List.mem_of_getElem? hi)).1 (apart p (List.mem_of_getElem? hi)).2)
  have hDm : va_D A0 (mid ++ (wr ++ (w0 ++ tl'))) := va_D.ap dm g2 (fun p hp q hq => by
    rcases List.mem_append.mp hq with g | g
    · obtain ⟨i, hi⟩ := List.getElem?_of_mem g
      obtain ⟨j, -, h4⟩ := at_of hR i q hi
      exact cr p hp q (List.mem_append_left _ (List.mem_of_getElem? h4))
    · obtain ⟨i, hi⟩ := List.getElem?_of_mem g
      have := hD1.2 i q hi
      exact fun e => (apart p hp).2 (by rw [e]; exact this))
  have q1 : PD D A0 (mid ++ ((wr ++ w0) ++ tl')) H1 := by rw [List.append_assoc]; exact ⟨hPm.app g1, hDm⟩
  exact PD.swap q1
section CX2
variable {p : Program} {l : Launch} {e : Env} {R : Room} {s : State} {m : MethodId} {args : Array Value} {below : List Frame} {meth : Method} {c : Code} {H : Heap} {locs : List Loc} {Q : State → Prop} {D : va_G} {k : Nat → ClassId} {A : Nat → Prop} {b0 : Bool} {r : Ry}
variable {y : MethodName} {bytes cc : ByteArray} {maxL nL n index j pc b ci N : Nat} {ret : Option FieldType} {own : String} {As rest st : List Value} {ls : Array Slot} {wc wr ws : va_W} {T : u_T} {fs : List Value} {σ : Type} {ry : σ → Ry} {val : σ → Option Value} {φ : σ → Prop} {post : σ → va_W}
theorem CKV2 {cells slots : Nat} {tl : va_W} (hx : p.tables.exec = Jvm.exec) (hb : c.code = cc) (hml : c.maxLocals = nL) (hown : s.vm.findClass own = some m.cls) (hts : ∀ w ∈ gw, w.before args s = true) (hK : KK D k s) (hP : va_P D vwCl (ws ++ tl) H) (hD : va_D A (ws ++ tl)) (hS : va_S A s.heap H locs) (hA : ∀ q : Nat, s.heap.size ≤ q → A q) (hM : WD l y bytes maxL ret j 0 0 D k (.ref b :: As) wc val φ post) (cI : CIv y bytes maxL ret n) (hlink : Cond.methodLink own index y ∈ gw) (hR : j + 1 ≤ R.frames ∧ 8 + (maxL + 11) + 40 * j ≤ R.locals) (hce : cells ≤ R.cells ∧ slots ≤ R.slots)
    (isC isR : List Nat) (hC : isC.map (fun i => ws[i]?) = wc.map some) (hC2 : isC.filterMap (fun i => ws[i]?) = wc) (hRr : isR.map (fun i => ws[i]?) = (pick ws isR).map some) (hnC : va_nd isC = true) (hnR : va_nd isR = true) (hdis : ∀ i ∈ isR, i ∉ isC)
    (q0 : Nat) (he : wc[q0]? = some (b, .inr (ci, fs))) (hc : vwCl[ci]? = some (y.cls, T, N)) (hn : As.length = n) (hsz : ls.size = nL) (hst : st = As.reverse ++ .ref b :: rest) (hW : (rest.map fun v => v.category).sum ≤ 8) (hdg : decode cc pc = .ok (.invokevirtual index, 3))
    (kk : ∀ (u : σ) (H1 : Heap) (locs1 : List Loc), φ u → va_P D vwCl ((pick ws isR ++ post u) ++ tl) H1 → va_D A ((pick ws isR ++ post u) ++ tl) → va_S A s.heap H1 locs1 → W p l e R s m args below meth c H1 locs1 cells slots Q (F0 m (pc + 3) ls ((val u).toList ++ rest))) : W p l e R s m args below meth c H locs cells slots Q (F0 m pc ls st) :=
  CKV (wr := pick ws isR) hx hb hml hown hts hK hP hD hS hA hM cI hlink hR hce isC isR hC hC2 hRr hnC hnR hdis q0 he hc hn hsz hst hW hdg kk
end CX2
section LR2
variable {p : Program} {l : Launch} {e : Env} {R : Room} {s : State} {m : MethodId} {args : Array Value} {below : List Frame} {meth : Method} {c : Code} {H : Heap} {locs : List Loc} {pc : Nat} {D : va_G} {A : Nat → Prop} {cc : ByteArray} {ls : Array Slot} {σ : Type} {ry : σ → Ry} {val : σ → Option Value} {φ : σ → Prop} {post : σ → va_W} {k : Nat → ClassId} {r : Ry} {Q : State → Prop}
variable {y : MethodName} {bytes : ByteArray} {maxL nL n index j b ci N c0 s0 : Nat} {ret : Option FieldType} {own : String} {As rest st : List Value} {wc wr ws : va_W} {T : u_T} {fs : List Value}
theorem CKSV2 {cells slots : Nat} {tl : va_W} {sa sv : Nat} (hx : p.tables.exec = Jvm.exec) (hb : c.code = cc) (hml : c.maxLocals = nL) (hown : s.vm.findClass own = some m.cls) (hts : ∀ w ∈ gw, w.before args s = true) (hK : KK D k s) (hP : va_P D vwCl (ws ++ tl) H) (hD : va_D A (ws ++ tl)) (hS : va_S A s.heap H locs) (hA : ∀ q : Nat, s.heap.size ≤ q → A q) (hSY : SY sa sv keyF A s s.heap) (hRR : vk_R RX12 175 keyT sa s) (hM : SD sa sv l y bytes maxL ret j D k (.ref b :: As) wc val φ post) (cI : CIv y bytes maxL ret n) (hlink : Cond.methodLink own index y ∈ gw) (hR : j + 1 ≤ R.frames ∧ 8 + (maxL + 11) + 40 * j ≤ R.locals) (hce : cells ≤ R.cells ∧ slots ≤ R.slots)
    (isC isR : List Nat) (hC : isC.map (fun i => ws[i]?) = wc.map some) (hC2 : isC.filterMap (fun i => ws[i]?) = wc) (hRr : isR.map (fun i => ws[i]?) = (pick ws isR).map some) (hnC : va_nd isC = true) (hnR : va_nd isR = true) (hdis : ∀ i ∈ isR, i ∉ isC)
    (q0 : Nat) (he : wc[q0]? = some (b, .inr (ci, fs))) (hc : vwCl[ci]? = some (y.cls, T, N)) (hn : As.length = n) (hsz : ls.size = nL) (hst : st = As.reverse ++ .ref b :: rest) (hW : (rest.map fun v => v.category).sum ≤ 8) (hdg : decode cc pc = .ok (.invokevirtual index, 3))
    (kk : ∀ (u : σ) (H1 : Heap) (locs1 : List Loc), φ u → va_P D vwCl ((pick ws isR ++ post u) ++ tl) H1 → va_D A ((pick ws isR ++ post u) ++ tl) → va_S A s.heap H1 locs1 → W p l e R s m args below meth c H1 locs1 cells slots Q (F0 m (pc + 3) ls ((val u).toList ++ rest))) : W p l e R s m args below meth c H locs cells slots Q (F0 m pc ls st) :=
  CKSV (wr := pick ws isR) hx hb hml hown hts hK hP hD hS hA hSY hRR hM cI hlink hR hce isC isR hC hC2 hRr hnC hnR hdis q0 he hc hn hsz hst hW hdg kk
theorem CXM {mid : va_W} (hx : p.tables.exec = Jvm.exec) (hb : c.code = cc) (hml : c.maxLocals = nL) (hown : s.vm.findClass own = some m.cls) (hts : ∀ w ∈ gw, w.before args s = true) (hK : KK D k s) (hP : va_P D vwCl (ws ++ (mid ++ r.tl)) H) (hD : va_D A (ws ++ (mid ++ r.tl))) (hS : va_S A s.heap H locs) (hA : ∀ q : Nat, s.heap.size ≤ q → A q) (hM : XD l y bytes maxL ret j r D k (.ref b :: As) wc ry val φ post) (cI : CIv y bytes maxL ret n) (hlink : Cond.methodLink own index y ∈ gw) (hR : j + 1 ≤ R.frames ∧ 8 + (maxL + 11) + 40 * j ≤ R.locals) (hce : c0 + 2 ≤ R.cells ∧ s0 + 28872 ≤ R.slots)
    (isC isR : List Nat) (hC : isC.map (fun i => ws[i]?) = wc.map some) (hC2 : isC.filterMap (fun i => ws[i]?) = wc) (hRr : isR.map (fun i => ws[i]?) = (pick ws isR).map some) (hnC : va_nd isC = true) (hnR : va_nd isR = true) (hdis : ∀ i ∈ isR, i ∉ isC)
    (q0 : Nat) (he : wc[q0]? = some (b, .inr (ci, fs))) (hc : vwCl[ci]? = some (y.cls, T, N)) (hn : As.length = n) (hsz : ls.size = nL) (hst : st = As.reverse ++ .ref b :: rest) (hW : (rest.map fun v => v.category).sum ≤ 8) (hdg : decode cc pc = .ok (.invokevirtual index, 3))
    (kk : ∀ (u : σ) (H1 : Heap) (locs1 : List Loc), φ u → va_P D vwCl ((pick ws isR ++ post u) ++ (mid ++ (ry u).tl)) H1 → va_D A ((pick ws isR ++ post u) ++ (mid ++ (ry u).tl)) → va_S A s.heap H1 locs1 → W p l e R s m args below meth c H1 locs1 (c0 + cz true (ry u).b) (s0 + sz true (ry u).b) Q (F0 m (pc + 3) ls ((val u).toList ++ rest))) : W p l e R s m args below meth c H locs (c0 + cz true r.b) (s0 + sz true r.b) Q (F0 m pc ls st) := by
  obtain ⟨hP2, hD2⟩ := PD.swap ⟨hP, hD⟩
  have hPt := hP2.spl.2
  obtain ⟨-, hDt, -⟩ := hD2.sp
  have hPc := hPt.subT isC hC2
  have hDc := hDt.subT isC hnC hC
  have hFc := free_tail hDt hS hA isC hC
  have hce2 : c0 + cz true r.b + rcN r.b ≤ R.cells ∧ s0 + sz true r.b + rsN r.b ≤ R.slots := by
    cases r.b with
    | true => exact ⟨Nat.le_trans (show c0 + 0 + 2 ≤ c0 + 2 by omega) hce.1, Nat.le_trans (show s0 + 0 + 28872 ≤ s0 + 28872 by omega) hce.2⟩
    | false => exact ⟨Nat.le_trans (show c0 + 2 + 0 ≤ c0 + 2 by omega) hce.1, Nat.le_trans (show s0 + 28872 + 0 ≤ s0 + 28872 by omega) hce.2⟩
  refine callXL (va_runV (As := As) (rest := rest) (b := b) ⟨hx, hb, hml, hown, hts⟩ (Met.ss (hM H.size)) (cwVx hts cI hlink hR) ⟨PW.blind, va_recv hK.1 hPc.spl.1 hc he, fun U hU hW => ⟨rfl, by rw [hU], by rw [hU]; exact hPc, hK.warm hW, hDc.weaken (fun _ _ _ _ => trivial)⟩⟩ rfl hn hsz hst (lv_room hW) hdg hce2) hS (fun q _ h => hFc q h) hFc (fun u H1 locs1 hφ hP1 hD1 hk1 hS1 => ?_)
  obtain ⟨g1, g2⟩ := join_mid hP2 hD2 isC isR hC hRr hnR hdis hk1 hFc hP1 hD1
  exact kk u H1 locs1 hφ g1 g2 hS1
end LR2
