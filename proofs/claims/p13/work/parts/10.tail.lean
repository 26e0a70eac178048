theorem va_P.spl {D : va_G} {cl : List vw_C} {a b : va_W} {H : Heap} (h : va_P D cl (a ++ b) H) : va_P D cl a H ∧ va_P D cl b H :=
  ⟨fun k q hk => h k q (by rw [List.getElem?_append_left (List.getElem?_eq_some_iff.mp hk).1]; exact hk), fun k q hk => h (a.length + k) q (by rw [List.getElem?_append_right (by omega), show a.length + k - a.length = k by omega]; exact hk)⟩
theorem va_D.spl {A : Nat → Prop} {a b : va_W} (h : va_D A (a ++ b)) : va_D A a ∧ va_D A b ∧ ∀ (i j : Nat) (p q : Nat × va_E), a[i]? = some p → b[j]? = some q → p.1 ≠ q.1 := by
  have hl : ∀ {k : Nat} {q : Nat × va_E}, a[k]? = some q → (a ++ b)[k]? = some q := fun {k q} hk => by rw [List.getElem?_append_left (List.getElem?_eq_some_iff.mp hk).1]; exact hk
  have hr : ∀ {k : Nat} {q : Nat × va_E}, b[k]? = some q → (a ++ b)[a.length + k]? = some q := fun {k q} hk => by rw [List.getElem?_append_right (by omega), show a.length + k - a.length = k by omega]; exact hk
  refine ⟨⟨fun i j p q h1 h2 e => h.1 i j p q (hl h1) (hl h2) e, fun k q hk => h.2 k q (hl hk)⟩, ⟨fun i j p q h1 h2 e => ?_, fun k q hk => h.2 _ q (hr hk)⟩, fun i j p q h1 h2 e => ?_⟩
  · have := h.1 _ _ p q (hr h1) (hr h2) e
    omega
  · have h3 := h.1 _ _ p q (hl h1) (hr h2) e
    have := (List.getElem?_eq_some_iff.mp h1).1
    omega
theorem va_P.subT {D : va_G} {cl : List vw_C} {pre pre' tl : va_W} {H : Heap} (h : va_P D cl (pre ++ tl) H) (is : List Nat) (hs : is.filterMap (fun i => pre[i]?) = pre') : va_P D cl (pre' ++ tl) H := (h.spl.1.sub is hs).app h.spl.2
theorem at_of {ws : va_W} {is : List Nat} {w : va_W} (hs : is.map (fun i => ws[i]?) = w.map some) (k : Nat) (q : Nat × va_E) (hq : w[k]? = some q) : ∃ i, is[k]? = some i ∧ ws[i]? = some q := by
  have h1 : (is.map (fun i => ws[i]?))[k]? = some (some q) := by rw [hs, List.getElem?_map, hq]; rfl
  rw [List.getElem?_map] at h1
  cases hi : is[k]? with
  | none => rw [hi] at h1; cases h1
  | some i => rw [hi] at h1; exact ⟨i, rfl, Option.some.inj h1⟩
theorem va_D.subT {A : Nat → Prop} {pre pre' tl : va_W} (hD : va_D A (pre ++ tl)) (is : List Nat) (hn : va_nd is = true) (hs : is.map (fun i => pre[i]?) = pre'.map some) : va_D A (pre' ++ tl) :=
  va_D.app (hD.spl.1.sub is hn hs) hD.spl.2.1 (fun i j p q h1 h2 => by
    obtain ⟨i2, -, h3⟩ := at_of hs i p h1
    exact hD.spl.2.2 i2 j p q h3 h2)
/-- behind a call: the callee has the tail -/
theorem join_tail {A0 : Nat → Prop} {D : va_G} {cl : List vw_C} {ws tl wc wr w1 : va_W} {H H1 : Heap} (hP : va_P D cl (ws ++ tl) H) (hD : va_D A0 (ws ++ tl)) (isC isR : List Nat) (hC : isC.map (fun i => ws[i]?) = wc.map some) (hR : isR.map (fun i => ws[i]?) = wr.map some) (hn : va_nd isR = true) (hdis : ∀ i ∈ isR, i ∉ isC)
    (hk : ∀ q : Nat, q < H.size → ¬ va_A (wc ++ tl) H.size q → H1[q]? = H[q]?) (hF : ∀ q, va_A (wc ++ tl) H.size q → A0 q) (hP1 : va_P D cl w1 H1) (hD1 : va_D (va_A (wc ++ tl) H.size) w1) : va_P D cl (wr ++ w1) H1 ∧ va_D A0 (wr ++ w1) := by
  have apart : ∀ (k : Nat) (q : Nat × va_E), wr[k]? = some q → q.1 < H.size ∧ ¬ va_A (wc ++ tl) H.size q.1 := by
    intro k q hq
    obtain ⟨i, h1, h2⟩ := at_of hR k q hq
    have hl := (hP.spl.1 i q h2).lt
    refine ⟨hl, fun h => ?_⟩
    rcases h with ⟨k2, e, h⟩ | h
    · by_cases hk2 : k2 < wc.length
      · rw [List.getElem?_append_left hk2] at h
        obtain ⟨j, h3, h4⟩ := at_of hC k2 (q.1, e) h
        have hij := hD.spl.1.1 i j q (q.1, e) h2 h4 rfl
        subst hij
        exact hdis i (List.mem_of_getElem? h1) (List.mem_of_getElem? h3)
      · rw [List.getElem?_append_right (by omega)] at h
        exact hD.spl.2.2 i _ q (q.1, e) h2 h rfl
    · omega
  refine ⟨va_P.app (fun k q hq => ?_) hP1, va_D.app (hD.spl.1.sub isR hn hR) (hD1.weaken (fun k q _ h => hF q.1 h)) (fun i j x y hx hy hxy => ?_)⟩
  · obtain ⟨i, h1, h2⟩ := at_of hR k q hq
    obtain ⟨g1, g2⟩ := apart k q hq
    exact (hP.spl.1 i q h2).kept (hk q.1 g1 g2)
  · exact (apart i x hx).2 (by rw [hxy]; exact hD1.2 j y hy)
theorem free_tail {A0 : Nat → Prop} {ws tl wc : va_W} {H0 H : Heap} {locs : List Loc} (hD : va_D A0 (ws ++ tl)) (hS : va_S A0 H0 H locs) (hA : ∀ q, H0.size ≤ q → A0 q) (isC : List Nat) (hC : isC.map (fun i => ws[i]?) = wc.map some) : ∀ q, va_A (wc ++ tl) H.size q → A0 q := by
  intro q h
  rcases h with ⟨k2, e, h⟩ | h
  · by_cases hk2 : k2 < wc.length
    · rw [List.getElem?_append_left hk2] at h
      obtain ⟨j, -, h4⟩ := at_of hC k2 (q, e) h
      exact hD.spl.1.2 j (q, e) h4
    · rw [List.getElem?_append_right (by omega)] at h
      exact hD.spl.2.1.2 _ (q, e) h
  · exact hA q (Nat.le_trans hS.1 h)
/-- behind a call: the caller keeps the tail -/
theorem join_keep {A0 : Nat → Prop} {D : va_G} {cl : List vw_C} {ws tl wc wr w1 : va_W} {H H1 : Heap} (hP : va_P D cl (ws ++ tl) H) (hD : va_D A0 (ws ++ tl)) (isC isR : List Nat) (hC : isC.map (fun i => ws[i]?) = wc.map some) (hR : isR.map (fun i => ws[i]?) = wr.map some) (hn : va_nd isR = true) (hdis : ∀ i ∈ isR, i ∉ isC)
    (hk : ∀ q : Nat, q < H.size → ¬ va_A wc H.size q → H1[q]? = H[q]?) (hF : ∀ q, va_A wc H.size q → A0 q) (hP1 : va_P D cl w1 H1) (hD1 : va_D (va_A wc H.size) w1) : va_P D cl ((wr ++ w1) ++ tl) H1 ∧ va_D A0 ((wr ++ w1) ++ tl) := by
  obtain ⟨g1, g2⟩ := va_join hP.spl.1 hD.spl.1 isC isR hC hR hn hdis hk hF hP1 hD1
  have apart : ∀ (k : Nat) (q : Nat × va_E), tl[k]? = some q → q.1 < H.size ∧ ¬ va_A wc H.size q.1 := by
    intro k q hq
    have hl := (hP.spl.2 k q hq).lt
    refine ⟨hl, fun h => ?_⟩
    rcases h with ⟨k2, e, h⟩ | h
    · obtain ⟨j, -, h4⟩ := at_of hC k2 (q.1, e) h
      exact hD.spl.2.2 j k (q.1, e) q h4 hq rfl
    · omega
  refine ⟨g1.app (fun k q hq => (hP.spl.2 k q hq).kept (hk q.1 (apart k q hq).1 (apart k q hq).2)), va_D.app g2 hD.spl.2.1 (fun i j x y hx hy hxy => ?_)⟩
  by_cases hi : i < wr.length
  · rw [List.getElem?_append_left hi] at hx
    obtain ⟨i2, -, h3⟩ := at_of hR i x hx
    exact hD.spl.2.2 i2 j x y h3 hy hxy
  · rw [List.getElem?_append_right (by omega)] at hx
    exact (apart j y hy).2 (by rw [← hxy]; exact hD1.2 _ x hx)
/-- what is known of Rays: b: its rows aren't made yet; tl: their cells -/
def Ry : Type := Bool × va_W × Value × Value × Int64
def Ry.b (r : Ry) : Bool := r.1
def Ry.tl (r : Ry) : va_W := r.2.1
def Ry.vA (r : Ry) : Value := r.2.2.1
def Ry.vL (r : Ry) : Value := r.2.2.2.1
def Ry.op (r : Ry) : Int64 := r.2.2.2.2
def mkR (b : Bool) (tl : va_W) (vA vL : Value) (op : Int64) : Ry := (b, tl, vA, vL, op)
def madeR (k : Nat → ClassId) (ha hl : Nat) (fa fl : Nat → Int32) (op : Int64) : Ry := mkR false [(ha, .inl (k 1, 14436, .inl fa)), (hl, .inl (k 1, 14436, .inl fl))] (.ref ha) (.ref hl) op
def rcN (b : Bool) : Nat := bif b then 2 else 0
def rsN (b : Bool) : Nat := bif b then 28872 else 0
def cz (b0 b : Bool) : Nat := rcN b0 - rcN b
def sz (b0 b : Bool) : Nat := rsN b0 - rsN b
theorem rg_zero {lo hi n : Int} (h1 : lo ≤ 0) (h2 : 0 ≤ hi) : rgI (fun _ => 0) lo hi n := fun e _ _ => by
  have h : gz (fun _ => 0) e = 0 := Int32.toInt_zero
  rw [h]
  exact ⟨h1, h2⟩
theorem cz_le (b0 b : Bool) : cz b0 b ≤ rcN b0 := Nat.sub_le _ _
theorem sz_le (b0 b : Bool) : sz b0 b ≤ rsN b0 := Nat.sub_le _ _
theorem cz_add {b0 b : Bool} (h : b = true → b0 = true) : cz b0 b + rcN b ≤ rcN b0 ∧ sz b0 b + rsN b ≤ rsN b0 := by
  cases b <;> cases b0 <;> first | decide | exact absurd (h rfl) (by decide)
abbrev RP_ : Type := (Nat → Int32) → (Nat → Int32) → Int64 → Prop
def RT (k : Nat → ClassId) (P : RP_) (r : Ry) : Prop := (r.b = true ∧ r.vA = .null ∧ r.vL = .null ∧ r.tl = [] ∧ r.op = 0) ∨ (r.b = false ∧ ∃ (ha hl : Nat) (fa fl : Nat → Int32), r.vA = .ref ha ∧ r.vL = .ref hl ∧ r.tl = [(ha, .inl (k 1, 14436, .inl fa)), (hl, .inl (k 1, 14436, .inl fl))] ∧ rgI fa (-2) 420 14436 ∧ rgI fl (-2) 400 14436 ∧ P fa fl r.op)
theorem RT.made {k : Nat → ClassId} {P : RP_} {r : Ry} (h : RT k P r) (hb : r.b = false) : ∃ (ha hl : Nat) (fa fl : Nat → Int32) (op : Int64), r = madeR k ha hl fa fl op ∧ rgI fa (-2) 420 14436 ∧ rgI fl (-2) 400 14436 ∧ P fa fl op := by
  rcases h with ⟨h1, -⟩ | ⟨-, ha, hl, fa, fl, e1, e2, e3, g1, g2, g3⟩
  · rw [hb] at h1; cases h1
  · obtain ⟨b, tl, vA, vL, op⟩ := r
    dsimp only [Ry.b, Ry.tl, Ry.vA, Ry.vL] at hb e1 e2 e3
    subst hb; subst e1; subst e2; subst e3
    exact ⟨ha, hl, fa, fl, op, rfl, g1, g2, g3⟩
theorem RT.not {k : Nat → ClassId} {P : RP_} {r : Ry} (h : RT k P r) (hb : r.b = true) : r = mkR true [] .null .null 0 := by
  rcases h with ⟨-, e1, e2, e3, e4⟩ | ⟨h1, -⟩
  · obtain ⟨b, tl, vA, vL, op⟩ := r
    dsimp only [Ry.b, Ry.tl, Ry.vA, Ry.vL, Ry.op] at hb e1 e2 e3 e4
    subst hb; subst e1; subst e2; subst e3; subst e4
    rfl
  · rw [hb] at h1; cases h1
theorem RT.mk {k : Nat → ClassId} {P : RP_} {ha hl : Nat} {fa fl : Nat → Int32} {op : Int64} (h1 : rgI fa (-2) 420 14436) (h2 : rgI fl (-2) 400 14436) (h3 : P fa fl op) : RT k P (madeR k ha hl fa fl op) := Or.inr ⟨rfl, ha, hl, fa, fl, rfl, rfl, rfl, h1, h2, h3⟩
def QX {σ : Type} (b : Bool) (ry : σ → Ry) (val : σ → Option Value) (φ : σ → Prop) (post : σ → va_W) (D : va_G) (A : Nat → Prop) : Array Value → State → Outcome → State → Prop := fun _ st oc t => (∃ u : σ, oc = .returned (val u) ∧ φ u ∧ va_P D vwCl (post u ++ (ry u).tl) t.heap ∧ va_D A (post u ++ (ry u).tl) ∧ ((ry u).b = true → b = true ∧ t.heap.size = st.heap.size)) ∧ va_F A st t
/-- a method that may make Rays' rows -/
def XD {σ : Type} (l : Launch) (y : MethodName) (cc : ByteArray) (maxL : Nat) (ret : Option FieldType) (j : Nat) (r : Ry) (D : va_G) (k : Nat → ClassId) (av : List Value) (pre : va_W) (ry : σ → Ry) (val : σ → Option Value) (φ : σ → Prop) (post : σ → va_W) : Prop := ∀ sz : Nat, Met l y (Cond.code y cc maxL ret :: gw) (rj j (rcN r.b) (rsN r.b)) (PW D k av (pre ++ r.tl) sz) (QX r.b ry val φ post D (va_A (pre ++ r.tl) sz)) (rcN r.b) (rsN r.b) (va_A (pre ++ r.tl) sz)
theorem MX {σ : Type} {l : Launch} {y : MethodName} {cc : ByteArray} {maxL : Nat} {ret : Option FieldType} {j : Nat} {r : Ry} {D : va_G} {k : Nat → ClassId} {av : List Value} {pre : va_W} {ry : σ → Ry} {val : σ → Option Value} {φ : σ → Prop} {post : σ → va_W} (hy : plainName y.cls = true) (hlen : (lg_sl av).length ≤ maxL)
    (body : ∀ (p : Program) (e : Env) (s : State) (m : MethodId) (below : List Frame) (meth : Method) (c : Code) (ls : Array Slot) (A : Nat → Prop), p.tables.exec = Jvm.exec → c.code = cc → c.maxLocals = maxL → meth.sig.returnType = ret → meth.locks = false → meth.name = y.name → (∀ w ∈ gw, w.before av.toArray s = true) → s.vm.findClass y.cls = some m.cls → KK D k s → va_P D vwCl (pre ++ r.tl) s.heap → va_D A (pre ++ r.tl) → va_S A s.heap s.heap [] → (∀ q : Nat, s.heap.size ≤ q → A q) → lv_has ls maxL (lv_args 0 av) → W p l e (rj j (rcN r.b) (rsN r.b)) s m av.toArray below meth c s.heap [] (cz r.b r.b) (sz r.b r.b) (MQ below (QX r.b ry val φ post D A) av.toArray s (rcN r.b) (rsN r.b) A) (F0 m 0 ls [])) : XD l y cc maxL ret j r D k av pre ry val φ post := by
  intro sz0
  refine Met.ofW (cc := cc) (maxL := maxL) (ret := ret) hy rfl ?_
  intro p e s m args below meth c s₁ B hml hv
  obtain ⟨rfl, hsz, hP, hK, hD0⟩ := hv
  subst hsz
  have hl := lv_entry av (n := maxL) hlen
  rw [lg_entry_eq]
  generalize (lg_sl av ++ List.replicate (maxL - (lg_sl av).length) Slot.unset).toArray = ls at hl ⊢
  have hts := atoms_spec (ws := Cond.code y cc maxL ret :: gw) B.pre
  have h := body p e s m below meth c ls (va_A (pre ++ r.tl) s.heap.size) B.exec B.bytes hml B.returns B.notSynchronized (name_of_methodNamed B.named B.method).1 (fun w hw => hts w (List.mem_cons_of_mem _ hw)) (findClass_of_methodNamed B.named) hK hP (hD0.self (sz := s.heap.size)) va_S.rf (fun q h => Or.inr h) hl
  have e1 : cz r.b r.b = 0 := Nat.sub_self _
  have e2 : sz r.b r.b = 0 := Nat.sub_self _
  rw [e1, e2] at h
  exact h
section EX
variable {p : Program} {l : Launch} {e : Env} {R : Room} {s : State} {m : MethodId} {args : Array Value} {below : List Frame} {meth : Method} {c : Code} {H : Heap} {locs : List Loc} {pc : Nat} {D : va_G} {A : Nat → Prop} {cc : ByteArray} {ls : Array Slot} {σ : Type} {ry : σ → Ry} {val : σ → Option Value} {φ : σ → Prop} {post : σ → va_W} {b0 : Bool}
theorem W.ceq {cells slots cells' slots' : Nat} {Q : State → Prop} {g : JFrame} (h1 : cells = cells') (h2 : slots = slots') (kk : W p l e R s m args below meth c H locs cells' slots' Q g) : W p l e R s m args below meth c H locs cells slots Q g := by subst h1; subst h2; exact kk
theorem end_x {b : Bool} {g : JFrame} {v : Option Value} (hb0 : b = true → b0 = true) (hS : va_S A s.heap H locs) (u : σ) (hv : val u = v) (hry : (ry u).b = b) (hφ : φ u) (hP : va_P D vwCl (post u ++ (ry u).tl) H) (hD : va_D A (post u ++ (ry u).tl))
    (kk : (∀ t : State, t.heap = H → s.WarmedH t.vm → QX b0 ry val φ post D A args s (.returned v) t) → W p l e R s m args below meth c H locs (rcN b0) (rsN b0) (MQ below (QX b0 ry val φ post D A) args s (rcN b0) (rsN b0) A) g) : W p l e R s m args below meth c H locs (cz b0 b) (sz b0 b) (MQ below (QX b0 ry val φ post D A) args s (rcN b0) (rsN b0) A) g := by
  intro T hT X
  have hz : T.heap.size ≤ s.heap.size + cz b0 b := X.heapSize
  refine kk (fun t ht _ => ⟨⟨u, by rw [hv], hφ, by rw [ht]; exact hP, hD, fun hb => ?_⟩, hS.F ht⟩) T hT (stand_widen X (Nat.sub_le _ _) (Nat.sub_le _ _))
  rw [hry] at hb
  have h0 := hb0 hb
  refine ⟨h0, ?_⟩
  rw [hb, h0, show cz true true = 0 from rfl, hT] at hz
  have := hS.1
  rw [ht]
  omega
theorem EXi {b : Bool} {v : Int32} (hx : p.tables.exec = Jvm.exec) (hb : c.code = cc) (hr : meth.sig.returnType = some .int) (hlocks : meth.locks = false) (hb0 : b = true → b0 = true) (hS : va_S A s.heap H locs) (u : σ) (hv : val u = some (.int v)) (hry : (ry u).b = b) (hφ : φ u) (hP : va_P D vwCl (post u ++ (ry u).tl) H) (hD : va_D A (post u ++ (ry u).tl)) (hdg : decode cc pc = .ok (.ireturn, 1)) : W p l e R s m args below meth c H locs (cz b0 b) (sz b0 b) (MQ below (QX b0 ry val φ post D A) args s (rcN b0) (rsN b0) A) (F0 m pc ls [.int v]) :=
  end_x hb0 hS u hv hry hφ hP hD (fun hq => W.iret hx hb hr hq hS.2.2 hdg)
theorem EXv {b : Bool} (hx : p.tables.exec = Jvm.exec) (hb : c.code = cc) (hr : meth.sig.returnType = none) (hlocks : meth.locks = false) (hb0 : b = true → b0 = true) (hS : va_S A s.heap H locs) (u : σ) (hv : val u = none) (hry : (ry u).b = b) (hφ : φ u) (hP : va_P D vwCl (post u ++ (ry u).tl) H) (hD : va_D A (post u ++ (ry u).tl)) (hdg : decode cc pc = .ok (.return_, 1)) : W p l e R s m args below meth c H locs (cz b0 b) (sz b0 b) (MQ below (QX b0 ry val φ post D A) args s (rcN b0) (rsN b0) A) (F0 m pc ls []) :=
  end_x hb0 hS u hv hry hφ hP hD (fun hq => W.vret hx hb hr hq hS.2.2 hdg)
theorem stand_tight {T : State} {cells slots : Nat} (X : Stand p l e R s m args below meth c T locs cells slots) (h : T.heap.size ≤ s.heap.size) : Stand p l e R s m args below meth c T locs 0 0 := by
  obtain ⟨h1, h2, h3, h4, h5, h6⟩ := X.same
  have hd : ((T.setVm s.vm).heap.toList.drop s.heap.size) = [] := List.drop_eq_nil_of_le (by rw [Array.length_toList]; exact h)
  exact { X with same := ⟨h1, h2, h, h4, by rw [hd]; exact Nat.le_refl _, h6⟩ }
theorem callX {st : List Value} {Q : State → Prop} {b : Bool} {A0 A1 : Nat → Prop} {a : Array Value} {free : Addr → Prop} {rest : List Value} (hb0 : b = true → b0 = true) (hr : va_Run p l e R s m args below meth c H locs (cz b0 b) (sz b0 b) (rcN b) (rsN b) (F0 m pc ls st) rest (QX b ry val φ post D A1 a) free) (hsz : va_S A0 s.heap H locs) (hA : ∀ q, q < H.size → A1 q → A0 q) (hf : ∀ q, free q → A0 q)
    (kk : ∀ (u : σ) (H1 : Heap) (locs1 : List Loc), φ u → va_P D vwCl (post u ++ (ry u).tl) H1 → va_D A1 (post u ++ (ry u).tl) → (∀ q : Nat, q < H.size → ¬ A1 q → H1[q]? = H[q]?) → va_S A0 s.heap H1 locs1 → ((ry u).b = true → b = true) → W p l e R s m args below meth c H1 locs1 (cz b0 (ry u).b) (sz b0 (ry u).b) Q (F0 m (pc + 3) ls ((val u).toList ++ rest))) : W p l e R s m args below meth c H locs (cz b0 b) (sz b0 b) Q (F0 m pc ls st) := by
  intro T hT X
  have hz0 : T.heap.size ≤ s.heap.size + cz b0 b := X.heapSize
  obtain ⟨v, st₀, t, T', L, h0, X', hL, e1, e2, ⟨⟨u, hv, hp, hb, hd, hc⟩, hz, hk⟩, st⟩ := hr T hT X
  cases hv
  rw [h0] at hz hk hc
  rw [← e1] at hb
  have X2 : Stand p l e R s m args below meth c T' (locs ++ L) (cz b0 (ry u).b) (sz b0 (ry u).b) := by
    cases hub : (ry u).b with
    | true =>
      obtain ⟨g1, g2⟩ := hc hub
      have g3 := hb0 g1
      rw [g3, show cz true true = 0 from rfl, show sz true true = 0 from rfl]
      refine stand_tight X' ?_
      rw [g1, g3, show cz true true = 0 from rfl, hT] at hz0
      rw [e1, g2]
      omega
    | false => exact stand_widen X' (by cases b <;> cases b0 <;> first | decide | exact absurd (hb0 rfl) (by decide)) (by cases b <;> cases b0 <;> first | decide | exact absurd (hb0 rfl) (by decide))
  obtain ⟨t2, a1, b1⟩ := kk u T'.heap (locs ++ L) hp hb hd (fun q h1 h2 => by rw [e1]; exact hk q h1 h2)
    ⟨Nat.le_trans hsz.1 (by rw [e1]; exact hz), fun q h1 h2 => by rw [e1, hk q (Nat.lt_of_lt_of_le h1 hsz.1) (fun z => h2 (hA q (Nat.lt_of_lt_of_le h1 hsz.1) z))]; exact hsz.2.1 q h1 h2, fun q hq => by
      rcases List.mem_append.mp hq with h | h
      · exact hsz.2.2 q h
      · exact hf _ (hL q h)⟩ (fun h => (hc h).1) T' rfl X2
  exact ⟨t2, st t2 a1, b1⟩
end EX
section CX
variable {p : Program} {l : Launch} {e : Env} {R : Room} {s : State} {m : MethodId} {args : Array Value} {below : List Frame} {meth : Method} {c : Code} {H : Heap} {locs : List Loc} {Q : State → Prop} {D : va_G} {k : Nat → ClassId} {A : Nat → Prop} {b0 : Bool} {r : Ry}
variable {y : MethodName} {bytes cc : ByteArray} {maxL nL n index j pc b ci N : Nat} {ret : Option FieldType} {own : String} {As rest st : List Value} {ls : Array Slot} {wc wr ws : va_W} {T : u_T} {fs : List Value} {σ : Type} {ry : σ → Ry} {val : σ → Option Value} {φ : σ → Prop} {post : σ → va_W}
theorem CXV (hx : p.tables.exec = Jvm.exec) (hb : c.code = cc) (hml : c.maxLocals = nL) (hown : s.vm.findClass own = some m.cls) (hts : ∀ w ∈ gw, w.before args s = true) (hK : KK D k s) (hP : va_P D vwCl (ws ++ r.tl) H) (hD : va_D A (ws ++ r.tl)) (hS : va_S A s.heap H locs) (hA : ∀ q : Nat, s.heap.size ≤ q → A q) (hb0 : r.b = true → b0 = true) (hM : XD l y bytes maxL ret j r D k (.ref b :: As) wc ry val φ post) (cI : CIv y bytes maxL ret n) (hlink : Cond.methodLink own index y ∈ gw) (hR : j + 1 ≤ R.frames ∧ 8 + (maxL + 11) + 40 * j ≤ R.locals) (hce : R.cells = rcN b0 ∧ R.slots = rsN b0)
    (isC isR : List Nat) (hC : isC.map (fun i => ws[i]?) = wc.map some) (hC2 : isC.filterMap (fun i => ws[i]?) = wc) (hRr : isR.map (fun i => ws[i]?) = wr.map some) (hnC : va_nd isC = true) (hnR : va_nd isR = true) (hdis : ∀ i ∈ isR, i ∉ isC)
    (q0 : Nat) (he : wc[q0]? = some (b, .inr (ci, fs))) (hc : vwCl[ci]? = some (y.cls, T, N)) (hn : As.length = n) (hsz : ls.size = nL) (hst : st = As.reverse ++ .ref b :: rest) (hW : (rest.map fun v => v.category).sum ≤ 8) (hdg : decode cc pc = .ok (.invokevirtual index, 3))
    (kk : ∀ (u : σ) (H1 : Heap) (locs1 : List Loc), φ u → va_P D vwCl (wr ++ (post u ++ (ry u).tl)) H1 → va_D A (wr ++ (post u ++ (ry u).tl)) → va_S A s.heap H1 locs1 → ((ry u).b = true → r.b = true) → W p l e R s m args below meth c H1 locs1 (cz b0 (ry u).b) (sz b0 (ry u).b) Q (F0 m (pc + 3) ls ((val u).toList ++ rest))) : W p l e R s m args below meth c H locs (cz b0 r.b) (sz b0 r.b) Q (F0 m pc ls st) := by
  have hPc := hP.subT isC hC2
  have hDc := hD.subT isC hnC hC
  have hFc := free_tail hD hS hA isC hC
  refine callX hb0 (va_runV (As := As) (rest := rest) (b := b) ⟨hx, hb, hml, hown, hts⟩ (hM H.size) (cwVx hts cI hlink hR) ⟨PW.blind, va_recv hK.1 hPc.spl.1 hc he, fun U hU hW => ⟨rfl, by rw [hU], by rw [hU]; exact hPc, hK.warm hW, hDc.weaken (fun _ _ _ _ => trivial)⟩⟩ rfl hn hsz hst (lv_room hW) hdg (by rw [hce.1, hce.2]; exact cz_add hb0)) hS (fun q _ h => hFc q h) hFc (fun u H1 locs1 hφ hP1 hD1 hk1 hS1 hb1 => ?_)
  obtain ⟨g1, g2⟩ := join_tail hP hD isC isR hC hRr hnR hdis hk1 hFc hP1 hD1
  exact kk u H1 locs1 hφ g1 g2 hS1 hb1
/-- a call that leaves the tail alone -/
theorem CKV {cells slots : Nat} {tl : va_W} (hx : p.tables.exec = Jvm.exec) (hb : c.code = cc) (hml : c.maxLocals = nL) (hown : s.vm.findClass own = some m.cls) (hts : ∀ w ∈ gw, w.before args s = true) (hK : KK D k s) (hP : va_P D vwCl (ws ++ tl) H) (hD : va_D A (ws ++ tl)) (hS : va_S A s.heap H locs) (hA : ∀ q : Nat, s.heap.size ≤ q → A q) (hM : WD l y bytes maxL ret j 0 0 D k (.ref b :: As) wc val φ post) (cI : CIv y bytes maxL ret n) (hlink : Cond.methodLink own index y ∈ gw) (hR : j + 1 ≤ R.frames ∧ 8 + (maxL + 11) + 40 * j ≤ R.locals) (hce : cells ≤ R.cells ∧ slots ≤ R.slots)
    (isC isR : List Nat) (hC : isC.map (fun i => ws[i]?) = wc.map some) (hC2 : isC.filterMap (fun i => ws[i]?) = wc) (hRr : isR.map (fun i => ws[i]?) = wr.map some) (hnC : va_nd isC = true) (hnR : va_nd isR = true) (hdis : ∀ i ∈ isR, i ∉ isC)
    (q0 : Nat) (he : wc[q0]? = some (b, .inr (ci, fs))) (hc : vwCl[ci]? = some (y.cls, T, N)) (hn : As.length = n) (hsz : ls.size = nL) (hst : st = As.reverse ++ .ref b :: rest) (hW : (rest.map fun v => v.category).sum ≤ 8) (hdg : decode cc pc = .ok (.invokevirtual index, 3))
    (kk : ∀ (u : σ) (H1 : Heap) (locs1 : List Loc), φ u → va_P D vwCl ((wr ++ post u) ++ tl) H1 → va_D A ((wr ++ post u) ++ tl) → va_S A s.heap H1 locs1 → W p l e R s m args below meth c H1 locs1 cells slots Q (F0 m (pc + 3) ls ((val u).toList ++ rest))) : W p l e R s m args below meth c H locs cells slots Q (F0 m pc ls st) := by
  have hPc := hP.spl.1.sub isC hC2
  have hDc := hD.spl.1.sub isC hnC hC
  have hFc := va_free hD.spl.1 hS hA isC hC
  refine callW (va_runV (As := As) (rest := rest) (b := b) ⟨hx, hb, hml, hown, hts⟩ (hM H.size) (cwVx hts cI hlink hR) ⟨PW.blind, va_recv hK.1 hPc hc he, fun U hU hW => ⟨rfl, by rw [hU], by rw [hU]; exact hPc, hK.warm hW, hDc.weaken (fun _ _ _ _ => trivial)⟩⟩ rfl hn hsz hst (lv_room hW) hdg hce) hS (fun q _ h => hFc q h) hFc (fun u H1 locs1 hφ hP1 hD1 hk1 hS1 => ?_)
  obtain ⟨g1, g2⟩ := join_keep hP hD isC isR hC hRr hnR hdis hk1 hFc hP1 hD1
  exact kk u H1 locs1 hφ g1 g2 hS1
theorem CKS {cells slots : Nat} {tl : va_W} (hx : p.tables.exec = Jvm.exec) (hb : c.code = cc) (hml : c.maxLocals = nL) (hown : s.vm.findClass own = some m.cls) (hts : ∀ w ∈ gw, w.before args s = true) (hK : KK D k s) (hP : va_P D vwCl (ws ++ tl) H) (hD : va_D A (ws ++ tl)) (hS : va_S A s.heap H locs) (hA : ∀ q : Nat, s.heap.size ≤ q → A q) (hM : WD l y bytes maxL ret j 0 0 D k As wc val φ post) (cI : CIs y bytes maxL ret n) (hlink : Cond.methodLink own index y ∈ gw) (hR : j + 1 ≤ R.frames ∧ 8 + (maxL + 11) + 40 * j ≤ R.locals) (hce : cells ≤ R.cells ∧ slots ≤ R.slots)
    (isC isR : List Nat) (hC : isC.map (fun i => ws[i]?) = wc.map some) (hC2 : isC.filterMap (fun i => ws[i]?) = wc) (hRr : isR.map (fun i => ws[i]?) = wr.map some) (hnC : va_nd isC = true) (hnR : va_nd isR = true) (hdis : ∀ i ∈ isR, i ∉ isC)
    (hn : As.length = n) (hsz : ls.size = nL) (hst : st = As.reverse ++ rest) (hW : (rest.map fun v => v.category).sum ≤ 8) (hdg : decode cc pc = .ok (.invokestatic index, 3))
    (kk : ∀ (u : σ) (H1 : Heap) (locs1 : List Loc), φ u → va_P D vwCl ((wr ++ post u) ++ tl) H1 → va_D A ((wr ++ post u) ++ tl) → va_S A s.heap H1 locs1 → W p l e R s m args below meth c H1 locs1 cells slots Q (F0 m (pc + 3) ls ((val u).toList ++ rest))) : W p l e R s m args below meth c H locs cells slots Q (F0 m pc ls st) := by
  have hPc := hP.spl.1.sub isC hC2
  have hDc := hD.spl.1.sub isC hnC hC
  have hFc := va_free hD.spl.1 hS hA isC hC
  refine callW (va_runS (As := As) (rest := rest) ⟨hx, hb, hml, hown, hts⟩ (hM H.size) (cwSx hts cI hlink hR) ⟨PW.blind, fun U hU hW => ⟨rfl, by rw [hU], by rw [hU]; exact hPc, hK.warm hW, hDc.weaken (fun _ _ _ _ => trivial)⟩⟩ rfl hn hsz hst (lv_room hW) hdg hce) hS (fun q _ h => hFc q h) hFc (fun u H1 locs1 hφ hP1 hD1 hk1 hS1 => ?_)
  obtain ⟨g1, g2⟩ := join_keep hP hD isC isR hC hRr hnR hdis hk1 hFc hP1 hD1
  exact kk u H1 locs1 hφ g1 g2 hS1
end CX
theorem ra_one {U : State} {a b : ClassId} {ty : FieldType} (h : va_RA U a ty) (h2 : va_RA U b ty) : a = b := by
  have f : ∀ {c : ClassId}, va_RA U c ty → U.vm.findClass ("[" ++ ty.toString) = some c := by
    intro c h
    unfold va_RA at h
    split at h
    · obtain ⟨kA, comp, -, -, -, h4⟩ := h; exact h4
    · exact h
  exact Option.some.inj ((f h).symm.trans (f h2))
section NW
variable {p : Program} {l : Launch} {e : Env} {R : Room} {s : State} {m : MethodId} {args : Array Value} {below : List Frame} {meth : Method} {c : Code} {H H0 : Heap} {locs : List Loc} {cells slots : Nat} {Q : State → Prop} {D : va_G} {k : Nat → ClassId} {A : Nat → Prop} {cc : ByteArray} {pc : Nat} {ls : Array Slot} {rest : List Value} {ws : va_W}
theorem nwa {atype : ArrayType} {t : Nat} {ty : FieldType} {a0 : vp_A} {n : Int32} {N' : Nat} (hx : p.tables.exec = Jvm.exec) (hb : c.code = cc) (harr : (Cond.arrayClass (newarray.typeOf atype)).before args s = true) (hty : newarray.typeOf atype = ty) (ht : (TY k)[t]? = some (k t, ty)) (hK : KK D k s) (hP : va_P D vwCl ws H) (hD : va_D A ws) (hS : va_S A H0 H locs) (hA : ∀ q, H0.size ≤ q → A q)
    (ha : ∀ cA : ClassId, vp_cell cA a0 = arrV cA N' (fun _ => defaultValue ty)) (hn : ¬ n < 0) (hN : n.toNatClampNeg = N') (hbytes : N' * componentBytes ty ≤ 536870912) (hcells : cells + 1 ≤ R.cells) (hslots : slots + N' ≤ R.slots) (hdg : decode cc pc = .ok (.newarray atype, 2))
    (kk : ∀ (q : Nat) (H1 : Heap), va_P D vwCl (ws ++ [(q, .inl (k t, a0))]) H1 → va_D A (ws ++ [(q, .inl (k t, a0))]) → va_S A H0 H1 locs → W p l e R s m args below meth c H1 locs (cells + 1) (slots + N') Q (F0 m (pc + 2) ls (.ref q :: rest))) : W p l e R s m args below meth c H locs cells slots Q (F0 m pc ls (.int n :: rest)) := by
  refine va_newa hx hb harr hty hK.1 hP hD hS hA ha hn hN hbytes hcells hslots hdg (fun q cA H1 hK1 hP1 hD1 hS1 => ?_)
  have h1 := (hK1.2 (TY k).length (cA, ty) (by simp)).2
  have h2 := (hK.1.2 t _ ht).2
  obtain rfl : cA = k t := ra_one h1 h2
  exact kk q H1 hP1 hD1 hS1
end NW
