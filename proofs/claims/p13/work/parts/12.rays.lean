section
theorem va_P.spl {D : va_G} {cl : List vw_C} {a b : va_W} {H : Heap} (h : va_P D cl (a ++ b) H) : va_P D cl a H ∧ va_P D cl b H :=
  ⟨fun k q hk => h k q (by rw [List.getElem?_append_left (List.getElem?_eq_some_iff.mp hk).1]; exact hk), fun k q hk => h (a.length + k) q (by rw [List.getElem?_append_right (by omega), show a.length + k - a.length = k by omega]; exact hk)⟩
theorem va_D.spl {A : Nat → Prop} {a b : va_W} (h : va_D A (a ++ b)) : va_D A a ∧ va_D A b ∧ ∀ (i j : Nat) (p q : Nat × va_E), a[i]? = some p → b[j]? = some q → p.1 ≠ q.1 := by
  have hl : ∀ {k : Nat} {q : Nat × va_E}, a[k]? = some q → (a ++ b)[k]? = some q := fun {k q} hk => by rw [List.getElem?_append_left (List.getElem?_eq_some_iff.mp hk).1]; exact hk
  have hr : ∀ {k : Nat} {q : Nat × va_E}, b[k]? = some q → (a ++ b)[a.length + k]? = some q := fun {k q} hk => by rw [List.getElem?_append_right (by omega), show a.length + k - a.length = k by omega]; exact hk
  refine ⟨⟨fun i j p q h1 h2 e => h.1 i j p q (hl h1) (hl h2) e, fun k q hk => h.2 k q (hl hk)⟩, ⟨fun i j p q h1 h2 e => ?_, fun k q hk => h.2 _ q (hr hk)⟩, fun i j p q h1 h2 e => ?_⟩
  · have := h.1 _ _ p q (hr h1) (hr h2) e
    omega
  · have h3 := h.1 _ _ p q (hl h1) (hr h2) e
    have := (List.getElem?_eq_some_iff.mp h1).1
    omega
theorem va_P.subT {D : va_G} {cl : List vw_C} {pre pre' tl : va_W} {H : Heap} (h : va_P D cl (pre ++ tl) H) (is : List Nat) (hs : is.filterMap (fun i => pre[i]?) = pre') : va_P D cl (pre' ++ tl) H := (h.spl.1.sub is hs).app h.spl.2
theorem at_of {ws : va_W} {is : List Nat} {w : va_W} (hs : is.map (fun i => ws[i]?) = w.map some) (k : Nat) (q : Nat × va_E) (hq : w[k]? = some q) : ∃ i, is[k]? = some i ∧ ws[i]? = some q := by
  have h1 : (is.map (fun i => ws[i]?))[k]? = some (some q) := by rw [hs, List.getElem?_map, hq]; rfl
  rw [List.getElem?_map] at h1
  cases hi : is[k]? with
  | none => rw [hi] at h1; cases h1
  | some i => rw [hi] at h1; exact ⟨i, rfl, Option.some.inj h1⟩
theorem va_D.subT {A : Nat → Prop} {pre pre' tl : va_W} (hD : va_D A (pre ++ tl)) (is : List Nat) (hn : va_nd is = true) (hs : is.map (fun i => pre[i]?) = pre'.map some) : va_D A (pre' ++ tl) :=
  va_D.app (hD.spl.1.sub is hn hs) hD.spl.2.1 (fun i j p q h1 h2 => by
    obtain ⟨i2, -, h3⟩ := at_of hs i p h1
    exact hD.spl.2.2 i2 j p q h3 h2)
/-- behind a call: the callee has the tail -/
theorem join_tail {A0 : Nat → Prop} {D : va_G} {cl : List vw_C} {ws tl wc wr w1 : va_W} {H H1 : Heap} (hP : va_P D cl (ws ++ tl) H) (hD : va_D A0 (ws ++ tl)) (isC isR : List Nat) (hC : isC.map (fun i => ws[i]?) = wc.map some) (hR : isR.map (fun i => ws[i]?) = wr.map some) (hn : va_nd isR = true) (hdis : ∀ i ∈ isR, i ∉ isC)
    (hk : ∀ q : Nat, q < H.size → ¬ va_A (wc ++ tl) H.size q → H1[q]? = H[q]?) (hF : ∀ q, va_A (wc ++ tl) H.size q → A0 q) (hP1 : va_P D cl w1 H1) (hD1 : va_D (va_A (wc ++ tl) H.size) w1) : va_P D cl (wr ++ w1) H1 ∧ va_D A0 (wr ++ w1) := by
  have apart : ∀ (k : Nat) (q : Nat × va_E), wr[k]? = some q → q.1 < H.size ∧ ¬ va_A (wc ++ tl) H.size q.1 := by
    intro k q hq
    obtain ⟨i, h1, h2⟩ := at_of hR k q hq
    have hl := (hP.spl.1 i q h2).lt
    refine ⟨hl, fun h => ?_⟩
    rcases h with ⟨k2, e, h⟩ | h
    · by_cases hk2 : k2 < wc.length
      · rw [List.getElem?_append_left hk2] at h
        obtain ⟨j, h3, h4⟩ := at_of hC k2 (q.1, e) h
        have hij := hD.spl.1.1 i j q (q.1, e) h2 h4 rfl
        subst hij
        exact hdis i (List.mem_of_getElem? h1) (List.mem_of_getElem? h3)
      · rw [List.getElem?_append_right (by omega)] at h
        exact hD.spl.2.2 i _ q (q.1, e) h2 h rfl
    · omega
  refine ⟨va_P.app (fun k q hq => ?_) hP1, va_D.app (hD.spl.1.sub isR hn hR) (hD1.weaken (fun k q _ h => hF q.1 h)) (fun i j x y hx hy hxy => ?_)⟩
  · obtain ⟨i, h1, h2⟩ := at_of hR k q hq
    obtain ⟨g1, g2⟩ := apart k q hq
    exact (hP.spl.1 i q h2).kept (hk q.1 g1 g2)
  · exact (apart i x hx).2 (by rw [hxy]; exact hD1.2 j y hy)
theorem free_tail {A0 : Nat → Prop} {ws tl wc : va_W} {H0 H : Heap} {locs : List Loc} (hD : va_D A0 (ws ++ tl)) (hS : va_S A0 H0 H locs) (hA : ∀ q, H0.size ≤ q → A0 q) (isC : List Nat) (hC : isC.map (fun i => ws[i]?) = wc.map some) : ∀ q, va_A (wc ++ tl) H.size q → A0 q := by
  intro q h
  rcases h with ⟨k2, e, h⟩ | h
  · by_cases hk2 : k2 < wc.length
    · rw [List.getElem?_append_left hk2] at h
      obtain ⟨j, -, h4⟩ := at_of hC k2 (q, e) h
      exact hD.spl.1.2 j (q, e) h4
    · rw [List.getElem?_append_right (by omega)] at h
      exact hD.spl.2.1.2 _ (q, e) h
  · exact hA q (Nat.le_trans hS.1 h)
/-- behind a call: the caller keeps the tail -/
theorem join_keep {A0 : Nat → Prop} {D : va_G} {cl : List vw_C} {ws tl wc wr w1 : va_W} {H H1 : Heap} (hP : va_P D cl (ws ++ tl) H) (hD : va_D A0 (ws ++ tl)) (isC isR : List Nat) (hC : isC.map (fun i => ws[i]?) = wc.map some) (hR : isR.map (fun i => ws[i]?) = wr.map some) (hn : va_nd isR = true) (hdis : ∀ i ∈ isR, i ∉ isC)
    (hk : ∀ q : Nat, q < H.size → ¬ va_A wc H.size q → H1[q]? = H[q]?) (hF : ∀ q, va_A wc H.size q → A0 q) (hP1 : va_P D cl w1 H1) (hD1 : va_D (va_A wc H.size) w1) : va_P D cl ((wr ++ w1) ++ tl) H1 ∧ va_D A0 ((wr ++ w1) ++ tl) := by
  obtain ⟨g1, g2⟩ := va_join hP.spl.1 hD.spl.1 isC isR hC hR hn hdis hk hF hP1 hD1
  have apart : ∀ (k : Nat) (q : Nat × va_E), tl[k]? = some q → q.1 < H.size ∧ ¬ va_A wc H.size q.1 := by
    intro k q hq
    have hl := (hP.spl.2 k q hq).lt
    refine ⟨hl, fun h => ?_⟩
    rcases h with ⟨k2, e, h⟩ | h
    · obtain ⟨j, -, h4⟩ := at_of hC k2 (q.1, e) h
      exact hD.spl.2.2 j k (q.1, e) q h4 hq rfl
    · omega
  refine ⟨g1.app (fun k q hq => (hP.spl.2 k q hq).kept (hk q.1 (apart k q hq).1 (apart k q hq).2)), va_D.app g2 hD.spl.2.1 (fun i j x y hx hy hxy => ?_)⟩
  by_cases hi : i < wr.length
  · rw [List.getElem?_append_left hi] at hx
    obtain ⟨i2, -, h3⟩ := at_of hR i x hx
    exact hD.spl.2.2 i2 j x y h3 hy hxy
  · rw [List.getElem?_append_right (by omega)] at hx
    exact (apart j y hy).2 (by rw [← hxy]; exact hD1.2 _ x hx)
/-- what is known of Rays: b: its rows aren't made yet; tl: their cells -/
def Ry : Type := Bool × va_W × Value × Value × Int64
def Ry.b (r : Ry) : Bool := r.1
def Ry.tl (r : Ry) : va_W := r.2.1
def Ry.vA (r : Ry) : Value := r.2.2.1
def Ry.vL (r : Ry) : Value := r.2.2.2.1
def Ry.op (r : Ry) : Int64 := r.2.2.2.2
def mkR (b : Bool) (tl : va_W) (vA vL : Value) (op : Int64) : Ry := (b, tl, vA, vL, op)
def madeR (k : Nat → ClassId) (ha hl : Nat) (fa fl : Nat → Int32) (op : Int64) : Ry := mkR false [(ha, .inl (k 1, 14436, .inl fa)), (hl, .inl (k 1, 14436, .inl fl))] (.ref ha) (.ref hl) op
def rcN (b : Bool) : Nat := bif b then 2 else 0
def rsN (b : Bool) : Nat := bif b then 28872 else 0
def cz (b0 b : Bool) : Nat := rcN b0 - rcN b
def sz (b0 b : Bool) : Nat := rsN b0 - rsN b
theorem rg_zero {lo hi n : Int} (h1 : lo ≤ 0) (h2 : 0 ≤ hi) : rgI (fun _ => 0) lo hi n := fun e _ _ => by
  have h : gz (fun _ => 0) e = 0 := Int32.toInt_zero
  rw [h]
  exact ⟨h1, h2⟩
theorem cz_le (b0 b : Bool) : cz b0 b ≤ rcN b0 := Nat.sub_le _ _
theorem sz_le (b0 b : Bool) : sz b0 b ≤ rsN b0 := Nat.sub_le _ _
theorem b_f {b c : Bool} (h : b = true → c = true) (hc : c = false) : b = false := by
  cases b with
  | false => rfl
  | true => exact absurd ((h rfl).symm.trans hc) (by decide)
theorem cz_add {b0 b : Bool} (h : b = true → b0 = true) : cz b0 b + rcN b ≤ rcN b0 ∧ sz b0 b + rsN b ≤ rsN b0 := by
  cases b <;> cases b0 <;> first | decide | exact absurd (h rfl) (by decide)
abbrev RP_ : Type := (Nat → Int32) → (Nat → Int32) → Int64 → Prop
def RT (k : Nat → ClassId) (P : RP_) (r : Ry) : Prop := (r.b = true ∧ r.vA = .null ∧ r.vL = .null ∧ r.tl = [] ∧ r.op = 0) ∨ (r.b = false ∧ ∃ (ha hl : Nat) (fa fl : Nat → Int32), r.vA = .ref ha ∧ r.vL = .ref hl ∧ r.tl = [(ha, .inl (k 1, 14436, .inl fa)), (hl, .inl (k 1, 14436, .inl fl))] ∧ rgI fa (-2) 420 14436 ∧ rgI fl (-2) 400 14436 ∧ P fa fl r.op)
theorem RT.made {k : Nat → ClassId} {P : RP_} {r : Ry} (h : RT k P r) (hb : r.b = false) : ∃ (ha hl : Nat) (fa fl : Nat → Int32) (op : Int64), r = madeR k ha hl fa fl op ∧ rgI fa (-2) 420 14436 ∧ rgI fl (-2) 400 14436 ∧ P fa fl op := by
  rcases h with ⟨h1, -⟩ | ⟨-, ha, hl, fa, fl, e1, e2, e3, g1, g2, g3⟩
  · rw [hb] at h1; cases h1
  · obtain ⟨b, tl, vA, vL, op⟩ := r
    dsimp only [Ry.b, Ry.tl, Ry.vA, Ry.vL] at hb e1 e2 e3
    subst hb; subst e1; subst e2; subst e3
    exact ⟨ha, hl, fa, fl, op, rfl, g1, g2, g3⟩
theorem RT.not {k : Nat → ClassId} {P : RP_} {r : Ry} (h : RT k P r) (hb : r.b = true) : r = mkR true [] .null .null 0 := by
  rcases h with ⟨-, e1, e2, e3, e4⟩ | ⟨h1, -⟩
  · obtain ⟨b, tl, vA, vL, op⟩ := r
    dsimp only [Ry.b, Ry.tl, Ry.vA, Ry.vL, Ry.op] at hb e1 e2 e3 e4
    subst hb; subst e1; subst e2; subst e3; subst e4
    rfl
  · rw [hb] at h1; cases h1
theorem RT.mk {k : Nat → ClassId} {P : RP_} {ha hl : Nat} {fa fl : Nat → Int32} {op : Int64} (h1 : rgI fa (-2) 420 14436) (h2 : rgI fl (-2) 400 14436) (h3 : P fa fl op) : RT k P (madeR k ha hl fa fl op) := Or.inr ⟨rfl, ha, hl, fa, fl, rfl, rfl, rfl, h1, h2, h3⟩
theorem RT.op0 {k : Nat → ClassId} {P P' : RP_} {r : Ry} {o : Int64} (h : RT k P r) (ho : o = 0) (h0 : ∀ fa fl : Nat → Int32, P' fa fl 0) : RT k P' (mkR r.b r.tl r.vA r.vL o) := by
  subst ho
  rcases h with ⟨a, b, c, d, -⟩ | ⟨a, ha, hl, fa, fl, e1, e2, e3, g1, g2, -⟩
  · exact Or.inl ⟨a, b, c, d, rfl⟩
  · exact Or.inr ⟨a, ha, hl, fa, fl, e1, e2, e3, g1, g2, h0 fa fl⟩
theorem RT.opk {k : Nat → ClassId} {P : RP_} {r : Ry} {o : Int64} (h : RT k P r) (ho : o = r.op) : RT k P (mkR r.b r.tl r.vA r.vL o) := by
  subst ho
  exact h
def QX {σ : Type} (b : Bool) (ry : σ → Ry) (val : σ → Option Value) (φ : σ → Prop) (post : σ → va_W) (D : va_G) (A : Nat → Prop) : Array Value → State → Outcome → State → Prop := fun _ st oc t => (∃ u : σ, oc = .returned (val u) ∧ φ u ∧ va_P D vwCl (post u ++ (ry u).tl) t.heap ∧ va_D A (post u ++ (ry u).tl) ∧ ((ry u).b = true → b = true ∧ t.heap.size = st.heap.size)) ∧ va_F A st t
/-- a method that may make Rays' rows -/
def XD {σ : Type} (l : Launch) (y : MethodName) (cc : ByteArray) (maxL : Nat) (ret : Option FieldType) (j : Nat) (r : Ry) (D : va_G) (k : Nat → ClassId) (av : List Value) (pre : va_W) (ry : σ → Ry) (val : σ → Option Value) (φ : σ → Prop) (post : σ → va_W) : Prop := ∀ sz : Nat, Met l y (Cond.code y cc maxL ret :: gw) (rj j (rcN r.b) (rsN r.b)) (PW D k av (pre ++ r.tl) sz) (QX r.b ry val φ post D (va_A (pre ++ r.tl) sz)) (rcN r.b) (rsN r.b) (va_A (pre ++ r.tl) sz)
theorem MX {σ : Type} {l : Launch} {y : MethodName} {cc : ByteArray} {maxL : Nat} {ret : Option FieldType} {j : Nat} {r : Ry} {D : va_G} {k : Nat → ClassId} {av : List Value} {pre : va_W} {ry : σ → Ry} {val : σ → Option Value} {φ : σ → Prop} {post : σ → va_W} (hy : plainName y.cls = true) (hlen : (lg_sl av).length ≤ maxL)
    (body : ∀ (p : Program) (e : Env) (s : State) (m : MethodId) (below : List Frame) (meth : Method) (c : Code) (ls : Array Slot) (A : Nat → Prop), p.tables.exec = Jvm.exec → c.code = cc → c.maxLocals = maxL → meth.sig.returnType = ret → meth.locks = false → meth.name = y.name → (∀ w ∈ gw, w.before av.toArray s = true) → s.vm.findClass y.cls = some m.cls → KK D k s → va_P D vwCl (pre ++ r.tl) s.heap → va_D A (pre ++ r.tl) → va_S A s.heap s.heap [] → (∀ q : Nat, s.heap.size ≤ q → A q) → lv_has ls maxL (lv_args 0 av) → W p l e (rj j (rcN r.b) (rsN r.b)) s m av.toArray below meth c s.heap [] (cz r.b r.b) (sz r.b r.b) (MQ below (QX r.b ry val φ post D A) av.toArray s (rcN r.b) (rsN r.b) A) (F0 m 0 ls [])) : XD l y cc maxL ret j r D k av pre ry val φ post := by
  intro sz0
  refine Met.ofW (cc := cc) (maxL := maxL) (ret := ret) hy rfl ?_
  intro p e s m args below meth c s₁ B hml hv
  obtain ⟨rfl, hsz, hP, hK, hD0⟩ := hv
  subst hsz
  have hl := lv_entry av (n := maxL) hlen
  rw [lg_entry_eq]
  generalize (lg_sl av ++ List.replicate (maxL - (lg_sl av).length) Slot.unset).toArray = ls at hl ⊢
  have hts := atoms_spec (ws := Cond.code y cc maxL ret :: gw) B.pre
  have h := body p e s m below meth c ls (va_A (pre ++ r.tl) s.heap.size) B.exec B.bytes hml B.returns B.notSynchronized (name_of_methodNamed B.named B.method).1 (fun w hw => hts w (List.mem_cons_of_mem _ hw)) (findClass_of_methodNamed B.named) hK hP (hD0.self (sz := s.heap.size)) va_S.rf (fun q h => Or.inr h) hl
  have e1 : cz r.b r.b = 0 := Nat.sub_self _
  have e2 : sz r.b r.b = 0 := Nat.sub_self _
  rw [e1, e2] at h
  exact h
section EX
variable {p : Program} {l : Launch} {e : Env} {R : Room} {s : State} {m : MethodId} {args : Array Value} {below : List Frame} {meth : Method} {c : Code} {H : Heap} {locs : List Loc} {pc : Nat} {D : va_G} {A : Nat → Prop} {cc : ByteArray} {ls : Array Slot} {σ : Type} {ry : σ → Ry} {val : σ → Option Value} {φ : σ → Prop} {post : σ → va_W} {b0 : Bool}
theorem W.ceq {cells slots cells' slots' : Nat} {Q : State → Prop} {g : JFrame} (h1 : cells = cells') (h2 : slots = slots') (kk : W p l e R s m args below meth c H locs cells' slots' Q g) : W p l e R s m args below meth c H locs cells slots Q g := by subst h1; subst h2; exact kk
theorem end_x {b : Bool} {g : JFrame} {v : Option Value} (hb0 : b = true → b0 = true) (hS : va_S A s.heap H locs) (u : σ) (hv : val u = v) (hry : (ry u).b = b) (hφ : φ u) (hP : va_P D vwCl (post u ++ (ry u).tl) H) (hD : va_D A (post u ++ (ry u).tl))
    (kk : (∀ t : State, t.heap = H → s.WarmedH t.vm → QX b0 ry val φ post D A args s (.returned v) t) → W p l e R s m args below meth c H locs (rcN b0) (rsN b0) (MQ below (QX b0 ry val φ post D A) args s (rcN b0) (rsN b0) A) g) : W p l e R s m args below meth c H locs (cz b0 b) (sz b0 b) (MQ below (QX b0 ry val φ post D A) args s (rcN b0) (rsN b0) A) g := by
  intro T hT X
  have hz : T.heap.size ≤ s.heap.size + cz b0 b := X.heapSize
  refine kk (fun t ht _ => ⟨⟨u, by rw [hv], hφ, by rw [ht]; exact hP, hD, fun hb => ?_⟩, hS.F ht⟩) T hT (stand_widen X (Nat.sub_le _ _) (Nat.sub_le _ _))
  rw [hry] at hb
  have h0 := hb0 hb
  refine ⟨h0, ?_⟩
  rw [hb, h0, show cz true true = 0 from rfl, hT] at hz
  have := hS.1
  rw [ht]
  omega
theorem EXi {b : Bool} {v : Int32} (hx : p.tables.exec = Jvm.exec) (hb : c.code = cc) (hr : meth.sig.returnType = some .int) (hlocks : meth.locks = false) (hb0 : b = true → b0 = true) (hS : va_S A s.heap H locs) (u : σ) (hv : val u = some (.int v)) (hry : (ry u).b = b) (hφ : φ u) (hP : va_P D vwCl (post u ++ (ry u).tl) H) (hD : va_D A (post u ++ (ry u).tl)) (hdg : decode cc pc = .ok (.ireturn, 1)) : W p l e R s m args below meth c H locs (cz b0 b) (sz b0 b) (MQ below (QX b0 ry val φ post D A) args s (rcN b0) (rsN b0) A) (F0 m pc ls [.int v]) :=
  end_x hb0 hS u hv hry hφ hP hD (fun hq => W.iret hx hb hr hq hS.2.2 hdg)
theorem EXz {b : Bool} {v : Int32} (hx : p.tables.exec = Jvm.exec) (hb : c.code = cc) (hr : meth.sig.returnType = some .boolean) (hlocks : meth.locks = false) (hb0 : b = true → b0 = true) (hS : va_S A s.heap H locs) (u : σ) (hv : val u = some (.int v)) (hn : narrow .boolean (.int v) = .int v) (hry : (ry u).b = b) (hφ : φ u) (hP : va_P D vwCl (post u ++ (ry u).tl) H) (hD : va_D A (post u ++ (ry u).tl)) (hdg : decode cc pc = .ok (.ireturn, 1)) : W p l e R s m args below meth c H locs (cz b0 b) (sz b0 b) (MQ below (QX b0 ry val φ post D A) args s (rcN b0) (rsN b0) A) (F0 m pc ls [.int v]) :=
  end_x hb0 hS u hv hry hφ hP hD (fun hq => W.zret hx hb hr hn hq hS.2.2 hdg)
theorem EXv {b : Bool} (hx : p.tables.exec = Jvm.exec) (hb : c.code = cc) (hr : meth.sig.returnType = none) (hlocks : meth.locks = false) (hb0 : b = true → b0 = true) (hS : va_S A s.heap H locs) (u : σ) (hv : val u = none) (hry : (ry u).b = b) (hφ : φ u) (hP : va_P D vwCl (post u ++ (ry u).tl) H) (hD : va_D A (post u ++ (ry u).tl)) (hdg : decode cc pc = .ok (.return_, 1)) : W p l e R s m args below meth c H locs (cz b0 b) (sz b0 b) (MQ below (QX b0 ry val φ post D A) args s (rcN b0) (rsN b0) A) (F0 m pc ls []) :=
  end_x hb0 hS u hv hry hφ hP hD (fun hq => W.vret hx hb hr hq hS.2.2 hdg)
theorem stand_tight {T : State} {cells slots : Nat} (X : Stand p l e R s m args below meth c T locs cells slots) (h : T.heap.size ≤ s.heap.size) : Stand p l e R s m args below meth c T locs 0 0 := by
  obtain ⟨h1, h2, h3, h4, h5, h6⟩ := X.same
  have hd : ((T.setVm s.vm).heap.toList.drop s.heap.size) = [] := List.drop_eq_nil_of_le (by rw [Array.length_toList]; exact h)
  exact { X with same := ⟨h1, h2, h, h4, by rw [hd]; exact Nat.le_refl _, h6⟩ }
theorem callX {st : List Value} {Q : State → Prop} {b : Bool} {A0 A1 : Nat → Prop} {a : Array Value} {free : Addr → Prop} {rest : List Value} (hb0 : b = true → b0 = true) (hr : va_Run p l e R s m args below meth c H locs (cz b0 b) (sz b0 b) (rcN b) (rsN b) (F0 m pc ls st) rest (QX b ry val φ post D A1 a) free) (hsz : va_S A0 s.heap H locs) (hA : ∀ q, q < H.size → A1 q → A0 q) (hf : ∀ q, free q → A0 q)
    (kk : ∀ (u : σ) (H1 : Heap) (locs1 : List Loc), φ u → va_P D vwCl (post u ++ (ry u).tl) H1 → va_D A1 (post u ++ (ry u).tl) → (∀ q : Nat, q < H.size → ¬ A1 q → H1[q]? = H[q]?) → va_S A0 s.heap H1 locs1 → ((ry u).b = true → b = true) → W p l e R s m args below meth c H1 locs1 (cz b0 (ry u).b) (sz b0 (ry u).b) Q (F0 m (pc + 3) ls ((val u).toList ++ rest))) : W p l e R s m args below meth c H locs (cz b0 b) (sz b0 b) Q (F0 m pc ls st) := by
  intro T hT X
  have hz0 : T.heap.size ≤ s.heap.size + cz b0 b := X.heapSize
  obtain ⟨v, st₀, t, T', L, h0, X', hL, e1, e2, ⟨⟨u, hv, hp, hb, hd, hc⟩, hz, hk⟩, st⟩ := hr T hT X
  cases hv
  rw [h0] at hz hk hc
  rw [← e1] at hb
  have X2 : Stand p l e R s m args below meth c T' (locs ++ L) (cz b0 (ry u).b) (sz b0 (ry u).b) := by
    cases hub : (ry u).b with
    | true =>
      obtain ⟨g1, g2⟩ := hc hub
      have g3 := hb0 g1
      rw [g3, show cz true true = 0 from rfl, show sz true true = 0 from rfl]
      refine stand_tight X' ?_
      rw [g1, g3, show cz true true = 0 from rfl, hT] at hz0
      rw [e1, g2]
      omega
    | false => exact stand_widen X' (by cases b <;> cases b0 <;> first | decide | exact absurd (hb0 rfl) (by decide)) (by cases b <;> cases b0 <;> first | decide | exact absurd (hb0 rfl) (by decide))
  obtain ⟨t2, a1, b1⟩ := kk u T'.heap (locs ++ L) hp hb hd (fun q h1 h2 => by rw [e1]; exact hk q h1 h2)
    ⟨Nat.le_trans hsz.1 (by rw [e1]; exact hz), fun q h1 h2 => by rw [e1, hk q (Nat.lt_of_lt_of_le h1 hsz.1) (fun z => h2 (hA q (Nat.lt_of_lt_of_le h1 hsz.1) z))]; exact hsz.2.1 q h1 h2, fun q hq => by
      rcases List.mem_append.mp hq with h | h
      · exact hsz.2.2 q h
      · exact hf _ (hL q h)⟩ (fun h => (hc h).1) T' rfl X2
  exact ⟨t2, st t2 a1, b1⟩
end EX
section CX
variable {p : Program} {l : Launch} {e : Env} {R : Room} {s : State} {m : MethodId} {args : Array Value} {below : List Frame} {meth : Method} {c : Code} {H : Heap} {locs : List Loc} {Q : State → Prop} {D : va_G} {k : Nat → ClassId} {A : Nat → Prop} {b0 : Bool} {r : Ry}
variable {y : MethodName} {bytes cc : ByteArray} {maxL nL n index j pc b ci N : Nat} {ret : Option FieldType} {own : String} {As rest st : List Value} {ls : Array Slot} {wc wr ws : va_W} {T : u_T} {fs : List Value} {σ : Type} {ry : σ → Ry} {val : σ → Option Value} {φ : σ → Prop} {post : σ → va_W}
theorem CXV (hx : p.tables.exec = Jvm.exec) (hb : c.code = cc) (hml : c.maxLocals = nL) (hown : s.vm.findClass own = some m.cls) (hts : ∀ w ∈ gw, w.before args s = true) (hK : KK D k s) (hP : va_P D vwCl (ws ++ r.tl) H) (hD : va_D A (ws ++ r.tl)) (hS : va_S A s.heap H locs) (hA : ∀ q : Nat, s.heap.size ≤ q → A q) (hb0 : r.b = true → b0 = true) (hM : XD l y bytes maxL ret j r D k (.ref b :: As) wc ry val φ post) (cI : CIv y bytes maxL ret n) (hlink : Cond.methodLink own index y ∈ gw) (hR : j + 1 ≤ R.frames ∧ 8 + (maxL + 11) + 40 * j ≤ R.locals) (hce : R.cells = rcN b0 ∧ R.slots = rsN b0)
    (isC isR : List Nat) (hC : isC.map (fun i => ws[i]?) = wc.map some) (hC2 : isC.filterMap (fun i => ws[i]?) = wc) (hRr : isR.map (fun i => ws[i]?) = wr.map some) (hnC : va_nd isC = true) (hnR : va_nd isR = true) (hdis : ∀ i ∈ isR, i ∉ isC)
    (q0 : Nat) (he : wc[q0]? = some (b, .inr (ci, fs))) (hc : vwCl[ci]? = some (y.cls, T, N)) (hn : As.length = n) (hsz : ls.size = nL) (hst : st = As.reverse ++ .ref b :: rest) (hW : (rest.map fun v => v.category).sum ≤ 8) (hdg : decode cc pc = .ok (.invokevirtual index, 3))
    (kk : ∀ (u : σ) (H1 : Heap) (locs1 : List Loc), φ u → va_P D vwCl (wr ++ (post u ++ (ry u).tl)) H1 → va_D A (wr ++ (post u ++ (ry u).tl)) → va_S A s.heap H1 locs1 → ((ry u).b = true → r.b = true) → W p l e R s m args below meth c H1 locs1 (cz b0 (ry u).b) (sz b0 (ry u).b) Q (F0 m (pc + 3) ls ((val u).toList ++ rest))) : W p l e R s m args below meth c H locs (cz b0 r.b) (sz b0 r.b) Q (F0 m pc ls st) := by
  have hPc := hP.subT isC hC2
  have hDc := hD.subT isC hnC hC
  have hFc := free_tail hD hS hA isC hC
  refine callX hb0 (va_runV (As := As) (rest := rest) (b := b) ⟨hx, hb, hml, hown, hts⟩ (hM H.size) (cwVx hts cI hlink hR) ⟨PW.blind, va_recv hK.1 hPc.spl.1 hc he, fun U hU hW => ⟨rfl, by rw [hU], by rw [hU]; exact hPc, hK.warm hW, hDc.weaken (fun _ _ _ _ => trivial)⟩⟩ rfl hn hsz hst (lv_room hW) hdg (by rw [hce.1, hce.2]; exact cz_add hb0)) hS (fun q _ h => hFc q h) hFc (fun u H1 locs1 hφ hP1 hD1 hk1 hS1 hb1 => ?_)
  obtain ⟨g1, g2⟩ := join_tail hP hD isC isR hC hRr hnR hdis hk1 hFc hP1 hD1
  exact kk u H1 locs1 hφ g1 g2 hS1 hb1
/-- a call that leaves the tail alone -/
theorem CKV {cells slots : Nat} {tl : va_W} (hx : p.tables.exec = Jvm.exec) (hb : c.code = cc) (hml : c.maxLocals = nL) (hown : s.vm.findClass own = some m.cls) (hts : ∀ w ∈ gw, w.before args s = true) (hK : KK D k s) (hP : va_P D vwCl (ws ++ tl) H) (hD : va_D A (ws ++ tl)) (hS : va_S A s.heap H locs) (hA : ∀ q : Nat, s.heap.size ≤ q → A q) (hM : WD l y bytes maxL ret j 0 0 D k (.ref b :: As) wc val φ post) (cI : CIv y bytes maxL ret n) (hlink : Cond.methodLink own index y ∈ gw) (hR : j + 1 ≤ R.frames ∧ 8 + (maxL + 11) + 40 * j ≤ R.locals) (hce : cells ≤ R.cells ∧ slots ≤ R.slots)
    (isC isR : List Nat) (hC : isC.map (fun i => ws[i]?) = wc.map some) (hC2 : isC.filterMap (fun i => ws[i]?) = wc) (hRr : isR.map (fun i => ws[i]?) = wr.map some) (hnC : va_nd isC = true) (hnR : va_nd isR = true) (hdis : ∀ i ∈ isR, i ∉ isC)
    (q0 : Nat) (he : wc[q0]? = some (b, .inr (ci, fs))) (hc : vwCl[ci]? = some (y.cls, T, N)) (hn : As.length = n) (hsz : ls.size = nL) (hst : st = As.reverse ++ .ref b :: rest) (hW : (rest.map fun v => v.category).sum ≤ 8) (hdg : decode cc pc = .ok (.invokevirtual index, 3))
    (kk : ∀ (u : σ) (H1 : Heap) (locs1 : List Loc), φ u → va_P D vwCl ((wr ++ post u) ++ tl) H1 → va_D A ((wr ++ post u) ++ tl) → va_S A s.heap H1 locs1 → W p l e R s m args below meth c H1 locs1 cells slots Q (F0 m (pc + 3) ls ((val u).toList ++ rest))) : W p l e R s m args below meth c H locs cells slots Q (F0 m pc ls st) := by
  have hPc := hP.spl.1.sub isC hC2
  have hDc := hD.spl.1.sub isC hnC hC
  have hFc := va_free hD.spl.1 hS hA isC hC
  refine callW (va_runV (As := As) (rest := rest) (b := b) ⟨hx, hb, hml, hown, hts⟩ (hM H.size) (cwVx hts cI hlink hR) ⟨PW.blind, va_recv hK.1 hPc hc he, fun U hU hW => ⟨rfl, by rw [hU], by rw [hU]; exact hPc, hK.warm hW, hDc.weaken (fun _ _ _ _ => trivial)⟩⟩ rfl hn hsz hst (lv_room hW) hdg hce) hS (fun q _ h => hFc q h) hFc (fun u H1 locs1 hφ hP1 hD1 hk1 hS1 => ?_)
  obtain ⟨g1, g2⟩ := join_keep hP hD isC isR hC hRr hnR hdis hk1 hFc hP1 hD1
  exact kk u H1 locs1 hφ g1 g2 hS1
theorem CKS {cells slots : Nat} {tl : va_W} (hx : p.tables.exec = Jvm.exec) (hb : c.code = cc) (hml : c.maxLocals = nL) (hown : s.vm.findClass own = some m.cls) (hts : ∀ w ∈ gw, w.before args s = true) (hK : KK D k s) (hP : va_P D vwCl (ws ++ tl) H) (hD : va_D A (ws ++ tl)) (hS : va_S A s.heap H locs) (hA : ∀ q : Nat, s.heap.size ≤ q → A q) (hM : WD l y bytes maxL ret j 0 0 D k As wc val φ post) (cI : CIs y bytes maxL ret n) (hlink : Cond.methodLink own index y ∈ gw) (hR : j + 1 ≤ R.frames ∧ 8 + (maxL + 11) + 40 * j ≤ R.locals) (hce : cells ≤ R.cells ∧ slots ≤ R.slots)
    (isC isR : List Nat) (hC : isC.map (fun i => ws[i]?) = wc.map some) (hC2 : isC.filterMap (fun i => ws[i]?) = wc) (hRr : isR.map (fun i => ws[i]?) = wr.map some) (hnC : va_nd isC = true) (hnR : va_nd isR = true) (hdis : ∀ i ∈ isR, i ∉ isC)
    (hn : As.length = n) (hsz : ls.size = nL) (hst : st = As.reverse ++ rest) (hW : (rest.map fun v => v.category).sum ≤ 8) (hdg : decode cc pc = .ok (.invokestatic index, 3))
    (kk : ∀ (u : σ) (H1 : Heap) (locs1 : List Loc), φ u → va_P D vwCl ((wr ++ post u) ++ tl) H1 → va_D A ((wr ++ post u) ++ tl) → va_S A s.heap H1 locs1 → W p l e R s m args below meth c H1 locs1 cells slots Q (F0 m (pc + 3) ls ((val u).toList ++ rest))) : W p l e R s m args below meth c H locs cells slots Q (F0 m pc ls st) := by
  have hPc := hP.spl.1.sub isC hC2
  have hDc := hD.spl.1.sub isC hnC hC
  have hFc := va_free hD.spl.1 hS hA isC hC
  refine callW (va_runS (As := As) (rest := rest) ⟨hx, hb, hml, hown, hts⟩ (hM H.size) (cwSx hts cI hlink hR) ⟨PW.blind, fun U hU hW => ⟨rfl, by rw [hU], by rw [hU]; exact hPc, hK.warm hW, hDc.weaken (fun _ _ _ _ => trivial)⟩⟩ rfl hn hsz hst (lv_room hW) hdg hce) hS (fun q _ h => hFc q h) hFc (fun u H1 locs1 hφ hP1 hD1 hk1 hS1 => ?_)
  obtain ⟨g1, g2⟩ := join_keep hP hD isC isR hC hRr hnR hdis hk1 hFc hP1 hD1
  exact kk u H1 locs1 hφ g1 g2 hS1
end CX
theorem ra_one {U : State} {a b : ClassId} {ty : FieldType} (h : va_RA U a ty) (h2 : va_RA U b ty) : a = b := by
  have f : ∀ {c : ClassId}, va_RA U c ty → U.vm.findClass ("[" ++ ty.toString) = some c := by
    intro c h
    unfold va_RA at h
    split at h
    · obtain ⟨kA, comp, -, -, -, h4⟩ := h; exact h4
    · exact h
  exact Option.some.inj ((f h).symm.trans (f h2))
section NW
variable {p : Program} {l : Launch} {e : Env} {R : Room} {s : State} {m : MethodId} {args : Array Value} {below : List Frame} {meth : Method} {c : Code} {H H0 : Heap} {locs : List Loc} {cells slots : Nat} {Q : State → Prop} {D : va_G} {k : Nat → ClassId} {A : Nat → Prop} {cc : ByteArray} {pc : Nat} {ls : Array Slot} {rest : List Value} {ws : va_W}
theorem nwa {atype : ArrayType} {t : Nat} {ty : FieldType} {a0 : vp_A} {n : Int32} {N' : Nat} (hx : p.tables.exec = Jvm.exec) (hb : c.code = cc) (harr : (Cond.arrayClass (newarray.typeOf atype)).before args s = true) (hty : newarray.typeOf atype = ty) (ht : (TY k)[t]? = some (k t, ty)) (hK : KK D k s) (hP : va_P D vwCl ws H) (hD : va_D A ws) (hS : va_S A H0 H locs) (hA : ∀ q, H0.size ≤ q → A q)
    (ha : ∀ cA : ClassId, vp_cell cA a0 = arrV cA N' (fun _ => defaultValue ty)) (hn : ¬ n < 0) (hN : n.toNatClampNeg = N') (hbytes : N' * componentBytes ty ≤ 536870912) (hcells : cells + 1 ≤ R.cells) (hslots : slots + N' ≤ R.slots) (hdg : decode cc pc = .ok (.newarray atype, 2))
    (kk : ∀ (q : Nat) (H1 : Heap), va_P D vwCl (ws ++ [(q, .inl (k t, a0))]) H1 → va_D A (ws ++ [(q, .inl (k t, a0))]) → va_S A H0 H1 locs → W p l e R s m args below meth c H1 locs (cells + 1) (slots + N') Q (F0 m (pc + 2) ls (.ref q :: rest))) : W p l e R s m args below meth c H locs cells slots Q (F0 m pc ls (.int n :: rest)) := by
  refine va_newa hx hb harr hty hK.1 hP hD hS hA ha hn hN hbytes hcells hslots hdg (fun q cA H1 hK1 hP1 hD1 hS1 => ?_)
  have h1 := (hK1.2 (TY k).length (cA, ty) (by simp)).2
  have h2 := (hK.1.2 t _ ht).2
  obtain rfl : cA = k t := ra_one h1 h2
  exact kk q H1 hP1 hD1 hS1
end NW
end

section
theorem gz_upc {f g : Nat → Int32} {e v j : Int} (hg : g = upd f (iZ e).toNatClampNeg (iZ v)) (he : 0 ≤ e ∧ e < 2147483648) (hv : -2147483648 ≤ v ∧ v < 2147483648) (hj : 0 ≤ j) : (j = e ∧ gz g j = v) ∨ (¬ j = e ∧ gz g j = gz f j) := by
  rw [gz_up hg he hv hj]
  by_cases h : j = e
  · rw [if_pos h]; exact Or.inl ⟨h, rfl⟩
  · rw [if_neg h]; exact Or.inr ⟨h, rfl⟩
/-- the bit of a couple among those that are opened -/
def OB (op : Int64) (c : Int) : Prop := op.toBitVec.getLsbD c.toNat = true
theorem ob_s : ∀ n : Nat, n < 64 → (((iZ (n : Int)).toInt64 &&& 63).toBitVec.smod 64).toNat = n := by decide +kernel
theorem ob_1 : ∀ n : Nat, n < 64 → ((1 : Int64) <<< ((iZ (n : Int)).toInt64 &&& 63)).toBitVec = BitVec.twoPow 64 n := by decide +kernel
theorem OB_0 (c : Int) : ¬ OB 0 c := by
  unfold OB
  rw [show (0 : Int64).toBitVec = 0#64 from rfl, BitVec.getLsbD_zero]
  exact Bool.false_ne_true
theorem OB_z {op y1 y2 : Int64} {c : Int} (hc : 0 ≤ c ∧ c < 36) (h1 : y1 = op >>> ((iZ c).toInt64 &&& 63)) (h2 : y2 = y1 &&& 1) : y2 = 0 ↔ ¬ OB op c := by
  obtain ⟨k, rfl⟩ := Int.eq_ofNat_of_zero_le hc.1
  have hk : k < 64 := by omega
  have e : y1.toBitVec = op.toBitVec.sshiftRight k := by
    rw [h1, Int64.toBitVec_shiftRight]
    show op.toBitVec.sshiftRight ((((iZ (k : Int)).toInt64 &&& 63).toBitVec.smod 64).toNat) = _
    rw [ob_s k hk]
  have e0 : (op.toBitVec.sshiftRight k).getLsbD 0 = op.toBitVec.getLsbD k := by
    rw [BitVec.getLsbD_sshiftRight]
    simp [hk]
  unfold OB
  rw [h2, ← Int64.toBitVec_inj, Int64.toBitVec_and, e, show ((k : Int)).toNat = k by omega]
  show op.toBitVec.sshiftRight k &&& 1#64 = 0#64 ↔ _
  constructor
  · intro h g
    have t := congrArg (fun x => x.getLsbD 0) h
    simp only [BitVec.getLsbD_and, e0, g, BitVec.getLsbD_zero] at t
    exact absurd t (by decide)
  · intro h
    apply BitVec.eq_of_getLsbD_eq
    intro i hi
    cases i with
    | zero => rw [BitVec.getLsbD_and, e0, Bool.eq_false_iff.mpr h, Bool.false_and, BitVec.getLsbD_zero]
    | succ i => simp
theorem OB_or {op y3 y4 : Int64} {c d : Int} (hc : 0 ≤ c ∧ c < 36) (hd : 0 ≤ d ∧ d < 36) (h3 : y3 = 1 <<< ((iZ c).toInt64 &&& 63)) (h4 : y4 = op ||| y3) : OB y4 d ↔ (OB op d ∨ d = c) := by
  obtain ⟨k, rfl⟩ := Int.eq_ofNat_of_zero_le hc.1
  obtain ⟨j, rfl⟩ := Int.eq_ofNat_of_zero_le hd.1
  have hk : k < 64 := by omega
  unfold OB
  rw [h4, Int64.toBitVec_or, h3, ob_1 k hk, BitVec.getLsbD_or, BitVec.getLsbD_twoPow, show ((j : Int)).toNat = j by omega, Bool.or_eq_true]
  constructor
  · rintro (h | h)
    · exact Or.inl h
    · have : k = j := by simpa [hk] using h
      exact Or.inr (by omega)
  · rintro (h | h)
    · exact Or.inl h
    · have : k = j := by omega
      exact Or.inr (by simp [hk, this]; omega)
theorem isCm_ex {f : Nat → Int32} {n a w b : Int} (hx : FXI f n) (ha : 0 ≤ a ∧ a < n) (hb : 0 ≤ b ∧ b < n) (hne : ¬ a = b) : ∃ t : Int, isCm f a w b 1 t ∧ w + 1 ≤ t ∧ t ≤ w + 20 := by
  have r := lt_rg (f := f) (a := a) (b := b) (w := w) (t := w + 20) hx ha hb
  have l1 : ∀ s : Int, 1 ≤ lt f a w b s := fun s => by
    unfold lt ap
    rw [if_neg hne]
    split <;> omega
  have key : ∀ k : Nat, k ≤ 20 → (∃ t : Int, isCm f a w b 1 t ∧ w + 1 ≤ t ∧ t ≤ w + 20) ∨ ∀ s : Int, w ≤ s → s < w + 1 + k → ¬ 1 * lt f a w b s ≤ s - w := by
    intro k
    induction k with
    | zero => exact fun _ => Or.inr (fun s p q => by have := l1 s; omega)
    | succ k ih =>
      intro hk
      rcases ih (by omega) with h | h
      · exact Or.inl h
      · by_cases c : 1 * lt f a w b (w + 1 + k) ≤ (w + 1 + k) - w
        · exact Or.inl ⟨w + 1 + k, ⟨by omega, c, h⟩, by omega, by omega⟩
        · refine Or.inr (fun s p q => ?_)
          rcases Int.lt_or_eq_of_le (show s ≤ w + 1 + k by omega) with d | d
          · exact h s p d
          · rw [d]; exact c
  rcases key 20 (by omega) with h | h
  · exact h
  · exact absurd (by omega) (h (w + 20) (by omega) (by omega))
theorem arF_c {f g : Nat → Int32} {n ni a w b : Int} (hx : FXI f n) (ha : 0 ≤ a ∧ a < n) (hb : 0 ≤ b ∧ b < n) (hne : ¬ a = b) (hw : w ≤ 400) : arF f g ni a w b = 1000000 ∨ (w + 1 ≤ arF f g ni a w b ∧ arF f g ni a w b ≤ w + 20) := by
  unfold arF
  rw [if_neg hne, if_neg (by omega)]
  by_cases c : bz (isIc g ni a b w) = 1
  · rw [if_pos c]; exact Or.inl rfl
  · rw [if_neg c]
    obtain ⟨t, h1, h2, h3⟩ := isCm_ex (w := w) hx ha hb hne
    rw [← cmF_eq h1]
    exact Or.inr ⟨h2, h3⟩
/-- when light arrives, -1: never, or no WEEK that sends -/
noncomputable def arN (f g : Nat → Int32) (ni a w b : Int) : Int := if 0 ≤ w ∧ w ≤ 400 then (if arF f g ni a w b = 1000000 then -1 else arF f g ni a w b) else -1
theorem arN_c {f g : Nat → Int32} {ni a w b : Int} (hw : 0 ≤ w ∧ w ≤ 400) : (arF f g ni a w b = 1000000 ∧ arN f g ni a w b = -1) ∨ (¬ arF f g ni a w b = 1000000 ∧ arN f g ni a w b = arF f g ni a w b) := by
  unfold arN
  rw [if_pos hw]
  by_cases c : arF f g ni a w b = 1000000
  · rw [if_pos c]; exact Or.inl ⟨c, rfl⟩
  · rw [if_neg c]; exact Or.inr ⟨c, rfl⟩
theorem arN_o {f g : Nat → Int32} {ni a w b : Int} (hw : w < 0 ∨ 400 < w) : arN f g ni a w b = -1 := by
  unfold arN
  rw [if_neg (by omega)]
theorem arN_s {f g : Nat → Int32} {ni a w : Int} (hw : 0 ≤ w ∧ w ≤ 400) : arN f g ni a w a = w := by
  have e : arF f g ni a w a = w := by unfold arF; rw [if_pos rfl]
  unfold arN
  rw [if_pos hw, e, if_neg (by omega)]
/-- what the class found: ice, or the first WEEK -/
theorem arN_f {f g : Nat → Int32} {n ni a w b t : Int} (hx : FXI f n) (ha : 0 ≤ a ∧ a < n) (hb : 0 ≤ b ∧ b < n) (hne : ¬ a = b) (hw : 0 ≤ w ∧ w ≤ 400) (h1 : w + 1 ≤ t ∧ t ≤ w + 20) (h2 : t = w + 20 ∨ lt f a w b t ≤ t - w) (h3 : ∀ s : Int, w + 1 ≤ s → s < t → ¬ lt f a w b s ≤ s - w) : (bz (isIc g ni a b w) = 1 → arN f g ni a w b = -1) ∧ (bz (isIc g ni a b w) = 0 → arN f g ni a w b = t) := by
  have l1 : 1 ≤ lt f a w b w := by
    unfold lt ap
    rw [if_neg hne]
    split <;> omega
  have l2 := lt_rg (f := f) (a := a) (b := b) (w := w) (t := t) hx ha hb
  have cm : isCm f a w b 1 t := ⟨by omega, by omega, fun s p q => by
    rcases Int.lt_or_eq_of_le p with d | d
    · have := h3 s (by omega) q; omega
    · rw [← d]; omega⟩
  constructor
  · intro c
    have e : arF f g ni a w b = 1000000 := by unfold arF; rw [if_neg hne, if_neg (by omega), if_pos c]
    unfold arN
    rw [if_pos hw, if_pos e]
  · intro c
    have e : arF f g ni a w b = t := by unfold arF; rw [if_neg hne, if_neg (by omega), if_neg (by omega)]; exact (cmF_eq cm).symm
    unfold arN
    rw [if_pos hw, e, if_neg (by omega)]
theorem isSn_ex {f g : Nat → Int32} {ni r o w : Int} (hw : -1 ≤ w) : ∃ z : Int, isSn f g ni r o w z := by
  have key : ∀ k : Nat, (k : Int) ≤ w + 1 → (∃ z : Int, isSn f g ni r o w z) ∨ ∀ u : Int, w - k < u → u ≤ w → ¬ arF f g ni o u r ≤ w := by
    intro k
    induction k with
    | zero => exact fun _ => Or.inr (fun u p q => absurd p (by omega))
    | succ k ih =>
      intro hk
      rcases ih (by omega) with h | h
      · exact Or.inl h
      · by_cases c : arF f g ni o (w - k) r ≤ w
        · exact Or.inl ⟨w - k, ⟨by omega, by omega⟩, fun _ => c, h⟩
        · refine Or.inr (fun u p q => ?_)
          rcases Int.lt_or_eq_of_le (show w - k ≤ u by omega) with d | d
          · exact h u d q
          · rw [← d]; exact c
  rcases key (w + 1).toNat (by omega) with h | h
  · exact h
  · exact ⟨-1, ⟨by omega, by omega⟩, fun p => absurd p (by omega), fun u p q => h u (by omega) q⟩
theorem snF_sp {f g : Nat → Int32} {ni r o w : Int} (hw : -1 ≤ w) : isSn f g ni r o w (snF f g ni r o w) := Classical.epsilon_spec (isSn_ex hw)
theorem snF_s {f g : Nat → Int32} {ni r w : Int} (hw : 0 ≤ w) : snF f g ni r r w = w := by
  have e : arF f g ni r w r = w := by unfold arF; rw [if_pos rfl]
  exact (snF_eq ⟨⟨by omega, by omega⟩, fun _ => by omega, fun u p q => absurd p (by omega)⟩).symm
/-- the search of what is seen: nothing newer was found -/
theorem sn_old {f g : Nat → Int32} {n ni r o w z l : Int} (hx : FXI f n) (hr : 0 ≤ r ∧ r < n) (ho : 0 ≤ o ∧ o < n) (hne : ¬ o = r) (hw : 0 ≤ w ∧ w ≤ 400) (h0 : (z = -1 ∧ l = 0) ∨ (isSn f g ni r o (w - 1) z ∧ l ≤ max (z + 1) (w - 20))) (hl : ∀ u : Int, l ≤ u → u ≤ w - 1 → ¬ arF f g ni o u r ≤ w) : z = snF f g ni r o w := by
  apply snF_eq
  have hwk : ¬ arF f g ni o w r ≤ w := by
    have := arF_c (g := g) (ni := ni) hx ho hr hne hw.2
    omega
  rcases h0 with ⟨rfl, rfl⟩ | ⟨⟨h1, h2, h3⟩, h4⟩
  · refine ⟨⟨by omega, by omega⟩, fun p => absurd p (by omega), fun u p q => ?_⟩
    rcases Int.lt_or_eq_of_le q with d | d
    · exact hl u (by omega) (by omega)
    · rw [d]; exact hwk
  · refine ⟨⟨h1.1, by omega⟩, fun p => by have := h2 p; omega, fun u p q => ?_⟩
    rcases Int.lt_or_eq_of_le q with d | d
    · by_cases c : l ≤ u
      · exact hl u c (by omega)
      · have a := h3 u p (by omega)
        have b := arF_c (g := g) (ni := ni) (w := u) hx ho hr hne (by omega)
        omega
    · rw [d]; exact hwk
theorem sn_new {f g : Nat → Int32} {n ni r o w z : Int} (hx : FXI f n) (hr : 0 ≤ r ∧ r < n) (ho : 0 ≤ o ∧ o < n) (hne : ¬ o = r) (hw : 0 ≤ w ∧ w ≤ 400) (h1 : 0 ≤ z ∧ z ≤ w - 1) (h2 : arF f g ni o z r ≤ w) (hl : ∀ u : Int, z < u → u ≤ w - 1 → ¬ arF f g ni o u r ≤ w) : z = snF f g ni r o w := by
  apply snF_eq
  have hwk : ¬ arF f g ni o w r ≤ w := by
    have := arF_c (g := g) (ni := ni) hx ho hr hne hw.2
    omega
  refine ⟨⟨by omega, by omega⟩, fun _ => h2, fun u p q => ?_⟩
  rcases Int.lt_or_eq_of_le q with d | d
  · exact hl u p (by omega)
  · rw [d]; exact hwk
theorem arF_o {f g : Nat → Int32} {ni a w b : Int} (hw : 400 < w) (hne : ¬ a = b) : arF f g ni a w b = 1000000 := by
  unfold arF
  rw [if_neg hne, if_pos hw]
/-- what Rays keep is so: the rows of couples that are opened -/
def RX (f g : Nat → Int32) (n ni : Int) (fa fl : Nat → Int32) (op : Int64) : Prop := ∀ a b : Int, (0 ≤ a ∧ a < n) → (0 ≤ b ∧ b < n) → ¬ a = b → OB op ((a * 6) + b) → ∀ w : Int, 0 ≤ w → w ≤ 400 → (gz fa ((((a * 6) + b) * 401) + w) = -2 ∨ gz fa ((((a * 6) + b) * 401) + w) = arN f g ni a w b) ∧ (gz fl ((((a * 6) + b) * 401) + w) = -2 ∨ gz fl ((((a * 6) + b) * 401) + w) = snF f g ni b a w)
theorem RX.zero (f g : Nat → Int32) (n ni : Int) (fa fl : Nat → Int32) : RX f g n ni fa fl 0 := fun _ _ _ _ _ h => absurd h (OB_0 _)
theorem RX.arr {f g fa fa' fl : Nat → Int32} {n ni a b w e v : Int} {op : Int64} (h : RX f g n ni fa fl op) (hg : fa' = upd fa (iZ e).toNatClampNeg (iZ v)) (he : e = (((a * 6) + b) * 401) + w) (ha : 0 ≤ a ∧ a < n) (hb : 0 ≤ b ∧ b < n) (hw : 0 ≤ w ∧ w ≤ 400) (hn : n ≤ 6) (hv : v = arN f g ni a w b) (hr : -2147483648 ≤ v ∧ v < 2147483648) : RX f g n ni fa' fl op := fun x y h1 h2 h3 h4 t h5 h6 => by
  obtain ⟨p, q⟩ := h x y h1 h2 h3 h4 t h5 h6
  refine ⟨?_, q⟩
  have u := gz_up hg (j := (((x * 6) + y) * 401) + t) ⟨by omega, by omega⟩ hr (by omega)
  by_cases c : (((x * 6) + y) * 401) + t = e
  · rw [if_pos c] at u
    obtain ⟨rfl, rfl, rfl⟩ : x = a ∧ y = b ∧ t = w := by omega
    exact Or.inr (u.trans hv)
  · rw [if_neg c] at u
    rw [u]; exact p
theorem RX.lk {f g fa fl fl' : Nat → Int32} {n ni a b w e v : Int} {op : Int64} (h : RX f g n ni fa fl op) (hg : fl' = upd fl (iZ e).toNatClampNeg (iZ v)) (he : e = (((a * 6) + b) * 401) + w) (ha : 0 ≤ a ∧ a < n) (hb : 0 ≤ b ∧ b < n) (hw : 0 ≤ w ∧ w ≤ 400) (hn : n ≤ 6) (hv : v = snF f g ni b a w) (hr : -2147483648 ≤ v ∧ v < 2147483648) : RX f g n ni fa fl' op := fun x y h1 h2 h3 h4 t h5 h6 => by
  obtain ⟨p, q⟩ := h x y h1 h2 h3 h4 t h5 h6
  refine ⟨p, ?_⟩
  have u := gz_up hg (j := (((x * 6) + y) * 401) + t) ⟨by omega, by omega⟩ hr (by omega)
  by_cases c : (((x * 6) + y) * 401) + t = e
  · rw [if_pos c] at u
    obtain ⟨rfl, rfl, rfl⟩ : x = a ∧ y = b ∧ t = w := by omega
    exact Or.inr (u.trans hv)
  · rw [if_neg c] at u
    rw [u]; exact q
theorem RX.opn {f g fa fl fa' fl' : Nat → Int32} {n ni c : Int} {op op' : Int64} (h : RX f g n ni fa fl op) (hn : n ≤ 6) (ho : ∀ d : Int, 0 ≤ d → d < 36 → OB op' d → OB op d ∨ d = c) (h1 : ∀ j : Int, c * 401 ≤ j → j < c * 401 + 401 → gz fa' j = -2 ∧ gz fl' j = -2) (h2 : ∀ j : Int, 0 ≤ j → (j < c * 401 ∨ c * 401 + 401 ≤ j) → gz fa' j = gz fa j ∧ gz fl' j = gz fl j) : RX f g n ni fa' fl' op' := fun x y g1 g2 g3 g4 t g5 g6 => by
  by_cases e : (x * 6) + y = c
  · obtain ⟨p, q⟩ := h1 ((((x * 6) + y) * 401) + t) (by omega) (by omega)
    exact ⟨Or.inl p, Or.inl q⟩
  · rcases ho ((x * 6) + y) (by omega) (by omega) g4 with k | k
    · obtain ⟨p, q⟩ := h2 ((((x * 6) + y) * 401) + t) (by omega) (by omega)
      obtain ⟨r, s⟩ := h x y g1 g2 g3 k t g5 g6
      rw [p, q]
      exact ⟨r, s⟩
    · exact absurd k e
end

section
theorem qf_X3_19 : Cond.fieldLink RX3 19 "SlowWorlds$Rays" "arrivals" "[I" ∈ gw := tbt (tb2 (List.mem_of_getElem? (i := 92) rfl)) rfl
theorem iX3 : ∀ w ∈ u_ws RX3 TX3 4, w ∈ gw := by
  intro w hw
  obtain ⟨k, hk, rfl⟩ := List.mem_map.mp hw
  have hk := List.mem_range.mp hk
  match k, hk with
  | 0, _ => exact tbt (tb2 (List.mem_of_getElem? (i := 94) rfl)) rfl
  | 1, _ => exact tbt (tb2 (List.mem_of_getElem? (i := 96) rfl)) rfl
  | 2, _ => exact tbt (tb2 (List.mem_of_getElem? (i := 98) rfl)) rfl
  | 3, _ => exact tbt (tb2 (List.mem_of_getElem? (i := 100) rfl)) rfl
  | (k + 4), hk => exact absurd hk (by omega)
theorem qa_int : Cond.arrayClass .int ∈ gw := tbt (tb1 (List.mem_of_getElem? (i := 83) rfl)) rfl
theorem qf_X3_23 : Cond.fieldLink RX3 23 "SlowWorlds$Rays" "looks" "[I" ∈ gw := tbt (tb2 (List.mem_of_getElem? (i := 93) rfl)) rfl
theorem qf_X3_15 : Cond.fieldLink RX3 15 "SlowWorlds$Rays" "opened" "J" ∈ gw := tbt (tb2 (List.mem_of_getElem? (i := 91) rfl)) rfl
theorem qc_X3_openedRow : Cond.code yX3_openedRow cX3_openedRow 6 (some .int) ∈ gw := tbt (tb4 (List.mem_of_getElem? (i := 88) rfl)) rfl
theorem qi_yX3_openedRow : Cond.instanceMethod yX3_openedRow ∈ gw := tbt (tb4 (List.mem_of_getElem? (i := 87) rfl)) rfl
theorem qs_X3_openedRow : Cond.selects (yX3_openedRow).cls yX3_openedRow yX3_openedRow ∈ gw := tb0 (List.mem_of_getElem? (i := 19) rfl) rfl
theorem qz_X3 : Cond.initialized RX3 ∈ gw := tbt (tb1 (List.mem_of_getElem? (i := 13) rfl)) rfl
theorem ci_X3_openedRow : CIv yX3_openedRow cX3_openedRow 6 (some .int) 2 := ⟨qc_X3_openedRow, qi_yX3_openedRow, qs_X3_openedRow, qz_X3, by decide +kernel⟩
theorem qm_X3_26 : Cond.methodLink RX3 26 yX3_openedRow ∈ gw := tbt (tb4 (List.mem_of_getElem? (i := 85) rfl)) rfl
theorem qf_X3_11 : Cond.fieldLink RX3 11 "SlowWorlds$Rays" "sky" "LSlowWorlds$Sky;" ∈ gw := tbt (tb2 (List.mem_of_getElem? (i := 90) rfl)) rfl
theorem qm_X3_30 : Cond.methodLink RX3 30 yX5_heading ∈ gw := tbt (tb4 (List.mem_of_getElem? (i := 89) rfl)) rfl
theorem qc_X5_hasIce : Cond.code yX5_hasIce cX5_hasIce 9 (some .boolean) ∈ gw := tbt (tb4 (List.mem_of_getElem? (i := 76) rfl)) rfl
theorem qi_yX5_hasIce : Cond.instanceMethod yX5_hasIce ∈ gw := tbt (tb4 (List.mem_of_getElem? (i := 74) rfl)) rfl
theorem qs_X5_hasIce : Cond.selects (yX5_hasIce).cls yX5_hasIce yX5_hasIce ∈ gw := tbt (tb4 (List.mem_of_getElem? (i := 75) rfl)) rfl
theorem ci_X5_hasIce : CIv yX5_hasIce cX5_hasIce 9 (some .boolean) 3 := ⟨qc_X5_hasIce, qi_yX5_hasIce, qs_X5_hasIce, qz_X5, by decide +kernel⟩
theorem qm_X3_39 : Cond.methodLink RX3 39 yX5_hasIce ∈ gw := tbt (tb4 (List.mem_of_getElem? (i := 91) rfl)) rfl
theorem qm_X3_35 : Cond.methodLink RX3 35 yX5_apart ∈ gw := tbt (tb4 (List.mem_of_getElem? (i := 90) rfl)) rfl
def fb_J6_compare_7cf53_0 : List UInt8 := [0x1a, 0x1b, 0xa2, 0x00, 0x07, 0x02, 0xa7, 0x00, 0x0d, 0x1a, 0x1b, 0xa0, 0x00, 0x07, 0x03, 0xa7, 0x00, 0x04, 0x04, 0xac]
theorem fl_J6_compare_7cf53_0 {p j : Nat} {b : UInt8} (e : p = 0 + j) (h : fb_J6_compare_7cf53_0[j]? = some b) : cJ6_compare_7cf53.data.toList[p]? = some b := fq_l (n := 64) (show (cJ6_compare_7cf53.data.toList.drop 0).take 64 = fb_J6_compare_7cf53_0 by decide +kernel) e h
theorem dJ6_compare_7cf53_0 : decode cJ6_compare_7cf53 0 = .ok (.iload_n 0, 1) := fq1_26 (fl_J6_compare_7cf53_0 (j := 0) rfl rfl)
theorem dJ6_compare_7cf53_1 : decode cJ6_compare_7cf53 1 = .ok (.iload_n 1, 1) := fq1_27 (fl_J6_compare_7cf53_0 (j := 1) rfl rfl)
theorem dJ6_compare_7cf53_2 : decode cJ6_compare_7cf53 2 = .ok (.if_icmp .ge 7, 3) := fq3_162 (fl_J6_compare_7cf53_0 (j := 2) rfl rfl) (fl_J6_compare_7cf53_0 (j := 3) rfl rfl) (fl_J6_compare_7cf53_0 (j := 4) rfl rfl) (s2p rfl (bl rfl))
theorem dJ6_compare_7cf53_5 : decode cJ6_compare_7cf53 5 = .ok (.iconst (-1), 1) := fq1_2 (fl_J6_compare_7cf53_0 (j := 5) rfl rfl)
theorem dJ6_compare_7cf53_6 : decode cJ6_compare_7cf53 6 = .ok (.goto 13, 3) := fq3_167 (fl_J6_compare_7cf53_0 (j := 6) rfl rfl) (fl_J6_compare_7cf53_0 (j := 7) rfl rfl) (fl_J6_compare_7cf53_0 (j := 8) rfl rfl) (s2p rfl (bl rfl))
theorem dJ6_compare_7cf53_9 : decode cJ6_compare_7cf53 9 = .ok (.iload_n 0, 1) := fq1_26 (fl_J6_compare_7cf53_0 (j := 9) rfl rfl)
theorem dJ6_compare_7cf53_10 : decode cJ6_compare_7cf53 10 = .ok (.iload_n 1, 1) := fq1_27 (fl_J6_compare_7cf53_0 (j := 10) rfl rfl)
theorem dJ6_compare_7cf53_11 : decode cJ6_compare_7cf53 11 = .ok (.if_icmp .ne 7, 3) := fq3_160 (fl_J6_compare_7cf53_0 (j := 11) rfl rfl) (fl_J6_compare_7cf53_0 (j := 12) rfl rfl) (fl_J6_compare_7cf53_0 (j := 13) rfl rfl) (s2p rfl (bl rfl))
theorem dJ6_compare_7cf53_14 : decode cJ6_compare_7cf53 14 = .ok (.iconst 0, 1) := fq1_3 (fl_J6_compare_7cf53_0 (j := 14) rfl rfl)
theorem dJ6_compare_7cf53_15 : decode cJ6_compare_7cf53 15 = .ok (.goto 4, 3) := fq3_167 (fl_J6_compare_7cf53_0 (j := 15) rfl rfl) (fl_J6_compare_7cf53_0 (j := 16) rfl rfl) (fl_J6_compare_7cf53_0 (j := 17) rfl rfl) (s2p rfl (bl rfl))
theorem dJ6_compare_7cf53_18 : decode cJ6_compare_7cf53 18 = .ok (.iconst 1, 1) := fq1_4 (fl_J6_compare_7cf53_0 (j := 18) rfl rfl)
theorem dJ6_compare_7cf53_19 : decode cJ6_compare_7cf53 19 = .ok (.ireturn, 1) := fq1_172 (fl_J6_compare_7cf53_0 (j := 19) rfl rfl)
def fb_X3_arrival_0 : List UInt8 := [0x1c, 0x9b, 0x00, 0x0a, 0x1c, 0x11, 0x01, 0x90, 0xa4, 0x00, 0x05, 0x02, 0xac, 0x1b, 0x1d, 0xa0, 0x00, 0x05, 0x1c, 0xac, 0x2a, 0x1b, 0x1d, 0xb6, 0x00, 0x1a, 0x1c, 0x60, 0x36, 0x04, 0x2a, 0xb4, 0x00, 0x13, 0x15, 0x04, 0x2e, 0x10, 0xfe, 0xa0, 0x00, 0x58, 0x2a, 0xb4, 0x00, 0x0b, 0x1b, 0x1c, 0xb6, 0x00, 0x1e, 0x36, 0x05, 0x1c, 0x04, 0x60, 0x36, 0x06, 0x15, 0x06, 0x1c, 0x10, 0x14, 0x60]
theorem fl_X3_arrival_0 {p j : Nat} {b : UInt8} (e : p = 0 + j) (h : fb_X3_arrival_0[j]? = some b) : cX3_arrival.data.toList[p]? = some b := fq_l (n := 64) (show (cX3_arrival.data.toList.drop 0).take 64 = fb_X3_arrival_0 by decide +kernel) e h
theorem dX3_arrival_0 : decode cX3_arrival 0 = .ok (.iload_n 2, 1) := fq1_28 (fl_X3_arrival_0 (j := 0) rfl rfl)
theorem dX3_arrival_1 : decode cX3_arrival 1 = .ok (.ifCond .lt 10, 3) := fq3_155 (fl_X3_arrival_0 (j := 1) rfl rfl) (fl_X3_arrival_0 (j := 2) rfl rfl) (fl_X3_arrival_0 (j := 3) rfl rfl) (s2p rfl (bl rfl))
theorem dX3_arrival_4 : decode cX3_arrival 4 = .ok (.iload_n 2, 1) := fq1_28 (fl_X3_arrival_0 (j := 4) rfl rfl)
theorem dX3_arrival_5 : decode cX3_arrival 5 = .ok (.sipush 400, 3) := fq3_17 (fl_X3_arrival_0 (j := 5) rfl rfl) (fl_X3_arrival_0 (j := 6) rfl rfl) (fl_X3_arrival_0 (j := 7) rfl rfl) (s2p rfl (bl rfl))
theorem dX3_arrival_8 : decode cX3_arrival 8 = .ok (.if_icmp .le 5, 3) := fq3_164 (fl_X3_arrival_0 (j := 8) rfl rfl) (fl_X3_arrival_0 (j := 9) rfl rfl) (fl_X3_arrival_0 (j := 10) rfl rfl) (s2p rfl (bl rfl))
theorem dX3_arrival_11 : decode cX3_arrival 11 = .ok (.iconst (-1), 1) := fq1_2 (fl_X3_arrival_0 (j := 11) rfl rfl)
theorem dX3_arrival_12 : decode cX3_arrival 12 = .ok (.ireturn, 1) := fq1_172 (fl_X3_arrival_0 (j := 12) rfl rfl)
theorem dX3_arrival_13 : decode cX3_arrival 13 = .ok (.iload_n 1, 1) := fq1_27 (fl_X3_arrival_0 (j := 13) rfl rfl)
theorem dX3_arrival_14 : decode cX3_arrival 14 = .ok (.iload_n 3, 1) := fq1_29 (fl_X3_arrival_0 (j := 14) rfl rfl)
theorem dX3_arrival_15 : decode cX3_arrival 15 = .ok (.if_icmp .ne 5, 3) := fq3_160 (fl_X3_arrival_0 (j := 15) rfl rfl) (fl_X3_arrival_0 (j := 16) rfl rfl) (fl_X3_arrival_0 (j := 17) rfl rfl) (s2p rfl (bl rfl))
theorem dX3_arrival_18 : decode cX3_arrival 18 = .ok (.iload_n 2, 1) := fq1_28 (fl_X3_arrival_0 (j := 18) rfl rfl)
theorem dX3_arrival_19 : decode cX3_arrival 19 = .ok (.ireturn, 1) := fq1_172 (fl_X3_arrival_0 (j := 19) rfl rfl)
theorem dX3_arrival_20 : decode cX3_arrival 20 = .ok (.aload_n 0, 1) := fq1_42 (fl_X3_arrival_0 (j := 20) rfl rfl)
theorem dX3_arrival_21 : decode cX3_arrival 21 = .ok (.iload_n 1, 1) := fq1_27 (fl_X3_arrival_0 (j := 21) rfl rfl)
theorem dX3_arrival_22 : decode cX3_arrival 22 = .ok (.iload_n 3, 1) := fq1_29 (fl_X3_arrival_0 (j := 22) rfl rfl)
theorem dX3_arrival_23 : decode cX3_arrival 23 = .ok (.invokevirtual 26, 3) := fq3_182 (fl_X3_arrival_0 (j := 23) rfl rfl) (fl_X3_arrival_0 (j := 24) rfl rfl) (fl_X3_arrival_0 (j := 25) rfl rfl) rfl
theorem dX3_arrival_26 : decode cX3_arrival 26 = .ok (.iload_n 2, 1) := fq1_28 (fl_X3_arrival_0 (j := 26) rfl rfl)
theorem dX3_arrival_27 : decode cX3_arrival 27 = .ok (.iadd, 1) := fq1_96 (fl_X3_arrival_0 (j := 27) rfl rfl)
theorem dX3_arrival_28 : decode cX3_arrival 28 = .ok (.istore 4, 2) := fq2_54 (fl_X3_arrival_0 (j := 28) rfl rfl) (fl_X3_arrival_0 (j := 29) rfl rfl) rfl
theorem dX3_arrival_30 : decode cX3_arrival 30 = .ok (.aload_n 0, 1) := fq1_42 (fl_X3_arrival_0 (j := 30) rfl rfl)
theorem dX3_arrival_31 : decode cX3_arrival 31 = .ok (.getfield 19, 3) := fq3_180 (fl_X3_arrival_0 (j := 31) rfl rfl) (fl_X3_arrival_0 (j := 32) rfl rfl) (fl_X3_arrival_0 (j := 33) rfl rfl) rfl
theorem dX3_arrival_34 : decode cX3_arrival 34 = .ok (.iload 4, 2) := fq2_21 (fl_X3_arrival_0 (j := 34) rfl rfl) (fl_X3_arrival_0 (j := 35) rfl rfl) rfl
theorem dX3_arrival_36 : decode cX3_arrival 36 = .ok (.iaload, 1) := fq1_46 (fl_X3_arrival_0 (j := 36) rfl rfl)
theorem dX3_arrival_37 : decode cX3_arrival 37 = .ok (.bipush (-2), 2) := fq2_16 (fl_X3_arrival_0 (j := 37) rfl rfl) (fl_X3_arrival_0 (j := 38) rfl rfl) (by decide)
theorem dX3_arrival_39 : decode cX3_arrival 39 = .ok (.if_icmp .ne 88, 3) := fq3_160 (fl_X3_arrival_0 (j := 39) rfl rfl) (fl_X3_arrival_0 (j := 40) rfl rfl) (fl_X3_arrival_0 (j := 41) rfl rfl) (s2p rfl (bl rfl))
theorem dX3_arrival_42 : decode cX3_arrival 42 = .ok (.aload_n 0, 1) := fq1_42 (fl_X3_arrival_0 (j := 42) rfl rfl)
theorem dX3_arrival_43 : decode cX3_arrival 43 = .ok (.getfield 11, 3) := fq3_180 (fl_X3_arrival_0 (j := 43) rfl rfl) (fl_X3_arrival_0 (j := 44) rfl rfl) (fl_X3_arrival_0 (j := 45) rfl rfl) rfl
theorem dX3_arrival_46 : decode cX3_arrival 46 = .ok (.iload_n 1, 1) := fq1_27 (fl_X3_arrival_0 (j := 46) rfl rfl)
theorem dX3_arrival_47 : decode cX3_arrival 47 = .ok (.iload_n 2, 1) := fq1_28 (fl_X3_arrival_0 (j := 47) rfl rfl)
theorem dX3_arrival_48 : decode cX3_arrival 48 = .ok (.invokevirtual 30, 3) := fq3_182 (fl_X3_arrival_0 (j := 48) rfl rfl) (fl_X3_arrival_0 (j := 49) rfl rfl) (fl_X3_arrival_0 (j := 50) rfl rfl) rfl
theorem dX3_arrival_51 : decode cX3_arrival 51 = .ok (.istore 5, 2) := fq2_54 (fl_X3_arrival_0 (j := 51) rfl rfl) (fl_X3_arrival_0 (j := 52) rfl rfl) rfl
theorem dX3_arrival_53 : decode cX3_arrival 53 = .ok (.iload_n 2, 1) := fq1_28 (fl_X3_arrival_0 (j := 53) rfl rfl)
theorem dX3_arrival_54 : decode cX3_arrival 54 = .ok (.iconst 1, 1) := fq1_4 (fl_X3_arrival_0 (j := 54) rfl rfl)
theorem dX3_arrival_55 : decode cX3_arrival 55 = .ok (.iadd, 1) := fq1_96 (fl_X3_arrival_0 (j := 55) rfl rfl)
theorem dX3_arrival_56 : decode cX3_arrival 56 = .ok (.istore 6, 2) := fq2_54 (fl_X3_arrival_0 (j := 56) rfl rfl) (fl_X3_arrival_0 (j := 57) rfl rfl) rfl
theorem dX3_arrival_58 : decode cX3_arrival 58 = .ok (.iload 6, 2) := fq2_21 (fl_X3_arrival_0 (j := 58) rfl rfl) (fl_X3_arrival_0 (j := 59) rfl rfl) rfl
theorem dX3_arrival_60 : decode cX3_arrival 60 = .ok (.iload_n 2, 1) := fq1_28 (fl_X3_arrival_0 (j := 60) rfl rfl)
theorem dX3_arrival_61 : decode cX3_arrival 61 = .ok (.bipush 20, 2) := fq2_16 (fl_X3_arrival_0 (j := 61) rfl rfl) (fl_X3_arrival_0 (j := 62) rfl rfl) (s1p rfl (bl rfl))
theorem dX3_arrival_63 : decode cX3_arrival 63 = .ok (.iadd, 1) := fq1_96 (fl_X3_arrival_0 (j := 63) rfl rfl)
def fb_X3_arrival_1 : List UInt8 := [0xa2, 0x00, 0x25, 0x2a, 0xb4, 0x00, 0x0b, 0x1b, 0x15, 0x05, 0x1d, 0x2a, 0xb4, 0x00, 0x0b, 0x1d, 0x15, 0x06, 0xb6, 0x00, 0x1e, 0xb6, 0x00, 0x23, 0x15, 0x06, 0x1c, 0x64, 0xa4, 0x00, 0x09, 0x84, 0x06, 0x01, 0xa7, 0xff, 0xd8, 0x2a, 0xb4, 0x00, 0x13, 0x15, 0x04, 0x2a, 0xb4, 0x00, 0x0b, 0x1b, 0x1d, 0x1c, 0xb6, 0x00, 0x27, 0x99, 0x00, 0x07, 0x02, 0xa7, 0x00, 0x05, 0x15, 0x06, 0x4f, 0x2a]
theorem fl_X3_arrival_1 {p j : Nat} {b : UInt8} (e : p = 64 + j) (h : fb_X3_arrival_1[j]? = some b) : cX3_arrival.data.toList[p]? = some b := fq_l (n := 64) (show (cX3_arrival.data.toList.drop 64).take 64 = fb_X3_arrival_1 by decide +kernel) e h
theorem dX3_arrival_64 : decode cX3_arrival 64 = .ok (.if_icmp .ge 37, 3) := fq3_162 (fl_X3_arrival_1 (j := 0) rfl rfl) (fl_X3_arrival_1 (j := 1) rfl rfl) (fl_X3_arrival_1 (j := 2) rfl rfl) (s2p rfl (bl rfl))
theorem dX3_arrival_67 : decode cX3_arrival 67 = .ok (.aload_n 0, 1) := fq1_42 (fl_X3_arrival_1 (j := 3) rfl rfl)
theorem dX3_arrival_68 : decode cX3_arrival 68 = .ok (.getfield 11, 3) := fq3_180 (fl_X3_arrival_1 (j := 4) rfl rfl) (fl_X3_arrival_1 (j := 5) rfl rfl) (fl_X3_arrival_1 (j := 6) rfl rfl) rfl
theorem dX3_arrival_71 : decode cX3_arrival 71 = .ok (.iload_n 1, 1) := fq1_27 (fl_X3_arrival_1 (j := 7) rfl rfl)
theorem dX3_arrival_72 : decode cX3_arrival 72 = .ok (.iload 5, 2) := fq2_21 (fl_X3_arrival_1 (j := 8) rfl rfl) (fl_X3_arrival_1 (j := 9) rfl rfl) rfl
theorem dX3_arrival_74 : decode cX3_arrival 74 = .ok (.iload_n 3, 1) := fq1_29 (fl_X3_arrival_1 (j := 10) rfl rfl)
theorem dX3_arrival_75 : decode cX3_arrival 75 = .ok (.aload_n 0, 1) := fq1_42 (fl_X3_arrival_1 (j := 11) rfl rfl)
theorem dX3_arrival_76 : decode cX3_arrival 76 = .ok (.getfield 11, 3) := fq3_180 (fl_X3_arrival_1 (j := 12) rfl rfl) (fl_X3_arrival_1 (j := 13) rfl rfl) (fl_X3_arrival_1 (j := 14) rfl rfl) rfl
theorem dX3_arrival_79 : decode cX3_arrival 79 = .ok (.iload_n 3, 1) := fq1_29 (fl_X3_arrival_1 (j := 15) rfl rfl)
theorem dX3_arrival_80 : decode cX3_arrival 80 = .ok (.iload 6, 2) := fq2_21 (fl_X3_arrival_1 (j := 16) rfl rfl) (fl_X3_arrival_1 (j := 17) rfl rfl) rfl
theorem dX3_arrival_82 : decode cX3_arrival 82 = .ok (.invokevirtual 30, 3) := fq3_182 (fl_X3_arrival_1 (j := 18) rfl rfl) (fl_X3_arrival_1 (j := 19) rfl rfl) (fl_X3_arrival_1 (j := 20) rfl rfl) rfl
theorem dX3_arrival_85 : decode cX3_arrival 85 = .ok (.invokevirtual 35, 3) := fq3_182 (fl_X3_arrival_1 (j := 21) rfl rfl) (fl_X3_arrival_1 (j := 22) rfl rfl) (fl_X3_arrival_1 (j := 23) rfl rfl) rfl
theorem dX3_arrival_88 : decode cX3_arrival 88 = .ok (.iload 6, 2) := fq2_21 (fl_X3_arrival_1 (j := 24) rfl rfl) (fl_X3_arrival_1 (j := 25) rfl rfl) rfl
theorem dX3_arrival_90 : decode cX3_arrival 90 = .ok (.iload_n 2, 1) := fq1_28 (fl_X3_arrival_1 (j := 26) rfl rfl)
theorem dX3_arrival_91 : decode cX3_arrival 91 = .ok (.isub, 1) := fq1_100 (fl_X3_arrival_1 (j := 27) rfl rfl)
theorem dX3_arrival_92 : decode cX3_arrival 92 = .ok (.if_icmp .le 9, 3) := fq3_164 (fl_X3_arrival_1 (j := 28) rfl rfl) (fl_X3_arrival_1 (j := 29) rfl rfl) (fl_X3_arrival_1 (j := 30) rfl rfl) (s2p rfl (bl rfl))
theorem dX3_arrival_95 : decode cX3_arrival 95 = .ok (.iinc 6 1, 3) := fq3_132 (fl_X3_arrival_1 (j := 31) rfl rfl) (fl_X3_arrival_1 (j := 32) rfl rfl) (fl_X3_arrival_1 (j := 33) rfl rfl) rfl (s1p rfl (bl rfl))
theorem dX3_arrival_98 : decode cX3_arrival 98 = .ok (.goto (-40), 3) := fq3_167 (fl_X3_arrival_1 (j := 34) rfl rfl) (fl_X3_arrival_1 (j := 35) rfl rfl) (fl_X3_arrival_1 (j := 36) rfl rfl) (by decide)
theorem dX3_arrival_101 : decode cX3_arrival 101 = .ok (.aload_n 0, 1) := fq1_42 (fl_X3_arrival_1 (j := 37) rfl rfl)
theorem dX3_arrival_102 : decode cX3_arrival 102 = .ok (.getfield 19, 3) := fq3_180 (fl_X3_arrival_1 (j := 38) rfl rfl) (fl_X3_arrival_1 (j := 39) rfl rfl) (fl_X3_arrival_1 (j := 40) rfl rfl) rfl
theorem dX3_arrival_105 : decode cX3_arrival 105 = .ok (.iload 4, 2) := fq2_21 (fl_X3_arrival_1 (j := 41) rfl rfl) (fl_X3_arrival_1 (j := 42) rfl rfl) rfl
theorem dX3_arrival_107 : decode cX3_arrival 107 = .ok (.aload_n 0, 1) := fq1_42 (fl_X3_arrival_1 (j := 43) rfl rfl)
theorem dX3_arrival_108 : decode cX3_arrival 108 = .ok (.getfield 11, 3) := fq3_180 (fl_X3_arrival_1 (j := 44) rfl rfl) (fl_X3_arrival_1 (j := 45) rfl rfl) (fl_X3_arrival_1 (j := 46) rfl rfl) rfl
theorem dX3_arrival_111 : decode cX3_arrival 111 = .ok (.iload_n 1, 1) := fq1_27 (fl_X3_arrival_1 (j := 47) rfl rfl)
theorem dX3_arrival_112 : decode cX3_arrival 112 = .ok (.iload_n 3, 1) := fq1_29 (fl_X3_arrival_1 (j := 48) rfl rfl)
theorem dX3_arrival_113 : decode cX3_arrival 113 = .ok (.iload_n 2, 1) := fq1_28 (fl_X3_arrival_1 (j := 49) rfl rfl)
theorem dX3_arrival_114 : decode cX3_arrival 114 = .ok (.invokevirtual 39, 3) := fq3_182 (fl_X3_arrival_1 (j := 50) rfl rfl) (fl_X3_arrival_1 (j := 51) rfl rfl) (fl_X3_arrival_1 (j := 52) rfl rfl) rfl
theorem dX3_arrival_117 : decode cX3_arrival 117 = .ok (.ifCond .eq 7, 3) := fq3_153 (fl_X3_arrival_1 (j := 53) rfl rfl) (fl_X3_arrival_1 (j := 54) rfl rfl) (fl_X3_arrival_1 (j := 55) rfl rfl) (s2p rfl (bl rfl))
theorem dX3_arrival_120 : decode cX3_arrival 120 = .ok (.iconst (-1), 1) := fq1_2 (fl_X3_arrival_1 (j := 56) rfl rfl)
theorem dX3_arrival_121 : decode cX3_arrival 121 = .ok (.goto 5, 3) := fq3_167 (fl_X3_arrival_1 (j := 57) rfl rfl) (fl_X3_arrival_1 (j := 58) rfl rfl) (fl_X3_arrival_1 (j := 59) rfl rfl) (s2p rfl (bl rfl))
theorem dX3_arrival_124 : decode cX3_arrival 124 = .ok (.iload 6, 2) := fq2_21 (fl_X3_arrival_1 (j := 60) rfl rfl) (fl_X3_arrival_1 (j := 61) rfl rfl) rfl
theorem dX3_arrival_126 : decode cX3_arrival 126 = .ok (.iastore, 1) := fq1_79 (fl_X3_arrival_1 (j := 62) rfl rfl)
theorem dX3_arrival_127 : decode cX3_arrival 127 = .ok (.aload_n 0, 1) := fq1_42 (fl_X3_arrival_1 (j := 63) rfl rfl)
def fb_X3_arrival_2 : List UInt8 := [0xb4, 0x00, 0x13, 0x15, 0x04, 0x2e, 0xac]
theorem fl_X3_arrival_2 {p j : Nat} {b : UInt8} (e : p = 128 + j) (h : fb_X3_arrival_2[j]? = some b) : cX3_arrival.data.toList[p]? = some b := fq_l (n := 64) (show (cX3_arrival.data.toList.drop 128).take 64 = fb_X3_arrival_2 by decide +kernel) e h
theorem dX3_arrival_128 : decode cX3_arrival 128 = .ok (.getfield 19, 3) := fq3_180 (fl_X3_arrival_2 (j := 0) rfl rfl) (fl_X3_arrival_2 (j := 1) rfl rfl) (fl_X3_arrival_2 (j := 2) rfl rfl) rfl
theorem dX3_arrival_131 : decode cX3_arrival 131 = .ok (.iload 4, 2) := fq2_21 (fl_X3_arrival_2 (j := 3) rfl rfl) (fl_X3_arrival_2 (j := 4) rfl rfl) rfl
theorem dX3_arrival_133 : decode cX3_arrival 133 = .ok (.iaload, 1) := fq1_46 (fl_X3_arrival_2 (j := 5) rfl rfl)
theorem dX3_arrival_134 : decode cX3_arrival 134 = .ok (.ireturn, 1) := fq1_172 (fl_X3_arrival_2 (j := 6) rfl rfl)
def fb_X3_openedRow_0 : List UInt8 := [0x1b, 0x10, 0x06, 0x68, 0x1c, 0x60, 0x3e, 0x1d, 0x11, 0x01, 0x91, 0x68, 0x36, 0x04, 0x2a, 0xb4, 0x00, 0x13, 0xc6, 0x00, 0x0a, 0x2a, 0xb4, 0x00, 0x17, 0xc7, 0x00, 0x15, 0x2a, 0x11, 0x38, 0x64, 0xbc, 0x0a, 0xb5, 0x00, 0x13, 0x2a, 0x11, 0x38, 0x64, 0xbc, 0x0a, 0xb5, 0x00, 0x17, 0x2a, 0xb4, 0x00, 0x0f, 0x1d, 0x7b, 0x0a, 0x7f, 0x09, 0x94, 0x9a, 0x00, 0x36, 0x2a, 0x59, 0xb4, 0x00, 0x0f]
theorem fl_X3_openedRow_0 {p j : Nat} {b : UInt8} (e : p = 0 + j) (h : fb_X3_openedRow_0[j]? = some b) : cX3_openedRow.data.toList[p]? = some b := fq_l (n := 64) (show (cX3_openedRow.data.toList.drop 0).take 64 = fb_X3_openedRow_0 by decide +kernel) e h
theorem dX3_openedRow_0 : decode cX3_openedRow 0 = .ok (.iload_n 1, 1) := fq1_27 (fl_X3_openedRow_0 (j := 0) rfl rfl)
theorem dX3_openedRow_1 : decode cX3_openedRow 1 = .ok (.bipush 6, 2) := fq2_16 (fl_X3_openedRow_0 (j := 1) rfl rfl) (fl_X3_openedRow_0 (j := 2) rfl rfl) (s1p rfl (bl rfl))
theorem dX3_openedRow_3 : decode cX3_openedRow 3 = .ok (.imul, 1) := fq1_104 (fl_X3_openedRow_0 (j := 3) rfl rfl)
theorem dX3_openedRow_4 : decode cX3_openedRow 4 = .ok (.iload_n 2, 1) := fq1_28 (fl_X3_openedRow_0 (j := 4) rfl rfl)
theorem dX3_openedRow_5 : decode cX3_openedRow 5 = .ok (.iadd, 1) := fq1_96 (fl_X3_openedRow_0 (j := 5) rfl rfl)
theorem dX3_openedRow_6 : decode cX3_openedRow 6 = .ok (.istore_n 3, 1) := fq1_62 (fl_X3_openedRow_0 (j := 6) rfl rfl)
theorem dX3_openedRow_7 : decode cX3_openedRow 7 = .ok (.iload_n 3, 1) := fq1_29 (fl_X3_openedRow_0 (j := 7) rfl rfl)
theorem dX3_openedRow_8 : decode cX3_openedRow 8 = .ok (.sipush 401, 3) := fq3_17 (fl_X3_openedRow_0 (j := 8) rfl rfl) (fl_X3_openedRow_0 (j := 9) rfl rfl) (fl_X3_openedRow_0 (j := 10) rfl rfl) (s2p rfl (bl rfl))
theorem dX3_openedRow_11 : decode cX3_openedRow 11 = .ok (.imul, 1) := fq1_104 (fl_X3_openedRow_0 (j := 11) rfl rfl)
theorem dX3_openedRow_12 : decode cX3_openedRow 12 = .ok (.istore 4, 2) := fq2_54 (fl_X3_openedRow_0 (j := 12) rfl rfl) (fl_X3_openedRow_0 (j := 13) rfl rfl) rfl
theorem dX3_openedRow_14 : decode cX3_openedRow 14 = .ok (.aload_n 0, 1) := fq1_42 (fl_X3_openedRow_0 (j := 14) rfl rfl)
theorem dX3_openedRow_15 : decode cX3_openedRow 15 = .ok (.getfield 19, 3) := fq3_180 (fl_X3_openedRow_0 (j := 15) rfl rfl) (fl_X3_openedRow_0 (j := 16) rfl rfl) (fl_X3_openedRow_0 (j := 17) rfl rfl) rfl
theorem dX3_openedRow_18 : decode cX3_openedRow 18 = .ok (.ifnull 10, 3) := fq3_198 (fl_X3_openedRow_0 (j := 18) rfl rfl) (fl_X3_openedRow_0 (j := 19) rfl rfl) (fl_X3_openedRow_0 (j := 20) rfl rfl) (s2p rfl (bl rfl))
theorem dX3_openedRow_21 : decode cX3_openedRow 21 = .ok (.aload_n 0, 1) := fq1_42 (fl_X3_openedRow_0 (j := 21) rfl rfl)
theorem dX3_openedRow_22 : decode cX3_openedRow 22 = .ok (.getfield 23, 3) := fq3_180 (fl_X3_openedRow_0 (j := 22) rfl rfl) (fl_X3_openedRow_0 (j := 23) rfl rfl) (fl_X3_openedRow_0 (j := 24) rfl rfl) rfl
theorem dX3_openedRow_25 : decode cX3_openedRow 25 = .ok (.ifnonnull 21, 3) := fq3_199 (fl_X3_openedRow_0 (j := 25) rfl rfl) (fl_X3_openedRow_0 (j := 26) rfl rfl) (fl_X3_openedRow_0 (j := 27) rfl rfl) (s2p rfl (bl rfl))
theorem dX3_openedRow_28 : decode cX3_openedRow 28 = .ok (.aload_n 0, 1) := fq1_42 (fl_X3_openedRow_0 (j := 28) rfl rfl)
theorem dX3_openedRow_29 : decode cX3_openedRow 29 = .ok (.sipush 14436, 3) := fq3_17 (fl_X3_openedRow_0 (j := 29) rfl rfl) (fl_X3_openedRow_0 (j := 30) rfl rfl) (fl_X3_openedRow_0 (j := 31) rfl rfl) (s2p rfl (bl rfl))
theorem dX3_openedRow_32 : decode cX3_openedRow 32 = .ok (.newarray .int, 2) := by decide +kernel
theorem dX3_openedRow_34 : decode cX3_openedRow 34 = .ok (.putfield 19, 3) := fq3_181 (fl_X3_openedRow_0 (j := 34) rfl rfl) (fl_X3_openedRow_0 (j := 35) rfl rfl) (fl_X3_openedRow_0 (j := 36) rfl rfl) rfl
theorem dX3_openedRow_37 : decode cX3_openedRow 37 = .ok (.aload_n 0, 1) := fq1_42 (fl_X3_openedRow_0 (j := 37) rfl rfl)
theorem dX3_openedRow_38 : decode cX3_openedRow 38 = .ok (.sipush 14436, 3) := fq3_17 (fl_X3_openedRow_0 (j := 38) rfl rfl) (fl_X3_openedRow_0 (j := 39) rfl rfl) (fl_X3_openedRow_0 (j := 40) rfl rfl) (s2p rfl (bl rfl))
theorem dX3_openedRow_41 : decode cX3_openedRow 41 = .ok (.newarray .int, 2) := by decide +kernel
theorem dX3_openedRow_43 : decode cX3_openedRow 43 = .ok (.putfield 23, 3) := fq3_181 (fl_X3_openedRow_0 (j := 43) rfl rfl) (fl_X3_openedRow_0 (j := 44) rfl rfl) (fl_X3_openedRow_0 (j := 45) rfl rfl) rfl
theorem dX3_openedRow_46 : decode cX3_openedRow 46 = .ok (.aload_n 0, 1) := fq1_42 (fl_X3_openedRow_0 (j := 46) rfl rfl)
theorem dX3_openedRow_47 : decode cX3_openedRow 47 = .ok (.getfield 15, 3) := fq3_180 (fl_X3_openedRow_0 (j := 47) rfl rfl) (fl_X3_openedRow_0 (j := 48) rfl rfl) (fl_X3_openedRow_0 (j := 49) rfl rfl) rfl
theorem dX3_openedRow_50 : decode cX3_openedRow 50 = .ok (.iload_n 3, 1) := fq1_29 (fl_X3_openedRow_0 (j := 50) rfl rfl)
theorem dX3_openedRow_51 : decode cX3_openedRow 51 = .ok (.lshr, 1) := fq1_123 (fl_X3_openedRow_0 (j := 51) rfl rfl)
theorem dX3_openedRow_52 : decode cX3_openedRow 52 = .ok (.lconst 1, 1) := fq1_10 (fl_X3_openedRow_0 (j := 52) rfl rfl)
theorem dX3_openedRow_53 : decode cX3_openedRow 53 = .ok (.land, 1) := fq1_127 (fl_X3_openedRow_0 (j := 53) rfl rfl)
theorem dX3_openedRow_54 : decode cX3_openedRow 54 = .ok (.lconst 0, 1) := fq1_9 (fl_X3_openedRow_0 (j := 54) rfl rfl)
theorem dX3_openedRow_55 : decode cX3_openedRow 55 = .ok (.lcmp, 1) := fq1_148 (fl_X3_openedRow_0 (j := 55) rfl rfl)
theorem dX3_openedRow_56 : decode cX3_openedRow 56 = .ok (.ifCond .ne 54, 3) := fq3_154 (fl_X3_openedRow_0 (j := 56) rfl rfl) (fl_X3_openedRow_0 (j := 57) rfl rfl) (fl_X3_openedRow_0 (j := 58) rfl rfl) (s2p rfl (bl rfl))
theorem dX3_openedRow_59 : decode cX3_openedRow 59 = .ok (.aload_n 0, 1) := fq1_42 (fl_X3_openedRow_0 (j := 59) rfl rfl)
theorem dX3_openedRow_60 : decode cX3_openedRow 60 = .ok (.dup, 1) := fq1_89 (fl_X3_openedRow_0 (j := 60) rfl rfl)
theorem dX3_openedRow_61 : decode cX3_openedRow 61 = .ok (.getfield 15, 3) := fq3_180 (fl_X3_openedRow_0 (j := 61) rfl rfl) (fl_X3_openedRow_0 (j := 62) rfl rfl) (fl_X3_openedRow_0 (j := 63) rfl rfl) rfl
def fb_X3_openedRow_1 : List UInt8 := [0x0a, 0x1d, 0x79, 0x81, 0xb5, 0x00, 0x0f, 0x15, 0x04, 0x36, 0x05, 0x15, 0x05, 0x15, 0x04, 0x11, 0x01, 0x91, 0x60, 0xa2, 0x00, 0x1b, 0x2a, 0xb4, 0x00, 0x13, 0x15, 0x05, 0x10, 0xfe, 0x4f, 0x2a, 0xb4, 0x00, 0x17, 0x15, 0x05, 0x10, 0xfe, 0x4f, 0x84, 0x05, 0x01, 0xa7, 0xff, 0xe0, 0x15, 0x04, 0xac]
theorem fl_X3_openedRow_1 {p j : Nat} {b : UInt8} (e : p = 64 + j) (h : fb_X3_openedRow_1[j]? = some b) : cX3_openedRow.data.toList[p]? = some b := fq_l (n := 64) (show (cX3_openedRow.data.toList.drop 64).take 64 = fb_X3_openedRow_1 by decide +kernel) e h
theorem dX3_openedRow_64 : decode cX3_openedRow 64 = .ok (.lconst 1, 1) := fq1_10 (fl_X3_openedRow_1 (j := 0) rfl rfl)
theorem dX3_openedRow_65 : decode cX3_openedRow 65 = .ok (.iload_n 3, 1) := fq1_29 (fl_X3_openedRow_1 (j := 1) rfl rfl)
theorem dX3_openedRow_66 : decode cX3_openedRow 66 = .ok (.lshl, 1) := fq1_121 (fl_X3_openedRow_1 (j := 2) rfl rfl)
theorem dX3_openedRow_67 : decode cX3_openedRow 67 = .ok (.lor, 1) := fq1_129 (fl_X3_openedRow_1 (j := 3) rfl rfl)
theorem dX3_openedRow_68 : decode cX3_openedRow 68 = .ok (.putfield 15, 3) := fq3_181 (fl_X3_openedRow_1 (j := 4) rfl rfl) (fl_X3_openedRow_1 (j := 5) rfl rfl) (fl_X3_openedRow_1 (j := 6) rfl rfl) rfl
theorem dX3_openedRow_71 : decode cX3_openedRow 71 = .ok (.iload 4, 2) := fq2_21 (fl_X3_openedRow_1 (j := 7) rfl rfl) (fl_X3_openedRow_1 (j := 8) rfl rfl) rfl
theorem dX3_openedRow_73 : decode cX3_openedRow 73 = .ok (.istore 5, 2) := fq2_54 (fl_X3_openedRow_1 (j := 9) rfl rfl) (fl_X3_openedRow_1 (j := 10) rfl rfl) rfl
theorem dX3_openedRow_75 : decode cX3_openedRow 75 = .ok (.iload 5, 2) := fq2_21 (fl_X3_openedRow_1 (j := 11) rfl rfl) (fl_X3_openedRow_1 (j := 12) rfl rfl) rfl
theorem dX3_openedRow_77 : decode cX3_openedRow 77 = .ok (.iload 4, 2) := fq2_21 (fl_X3_openedRow_1 (j := 13) rfl rfl) (fl_X3_openedRow_1 (j := 14) rfl rfl) rfl
theorem dX3_openedRow_79 : decode cX3_openedRow 79 = .ok (.sipush 401, 3) := fq3_17 (fl_X3_openedRow_1 (j := 15) rfl rfl) (fl_X3_openedRow_1 (j := 16) rfl rfl) (fl_X3_openedRow_1 (j := 17) rfl rfl) (s2p rfl (bl rfl))
theorem dX3_openedRow_82 : decode cX3_openedRow 82 = .ok (.iadd, 1) := fq1_96 (fl_X3_openedRow_1 (j := 18) rfl rfl)
theorem dX3_openedRow_83 : decode cX3_openedRow 83 = .ok (.if_icmp .ge 27, 3) := fq3_162 (fl_X3_openedRow_1 (j := 19) rfl rfl) (fl_X3_openedRow_1 (j := 20) rfl rfl) (fl_X3_openedRow_1 (j := 21) rfl rfl) (s2p rfl (bl rfl))
theorem dX3_openedRow_86 : decode cX3_openedRow 86 = .ok (.aload_n 0, 1) := fq1_42 (fl_X3_openedRow_1 (j := 22) rfl rfl)
theorem dX3_openedRow_87 : decode cX3_openedRow 87 = .ok (.getfield 19, 3) := fq3_180 (fl_X3_openedRow_1 (j := 23) rfl rfl) (fl_X3_openedRow_1 (j := 24) rfl rfl) (fl_X3_openedRow_1 (j := 25) rfl rfl) rfl
theorem dX3_openedRow_90 : decode cX3_openedRow 90 = .ok (.iload 5, 2) := fq2_21 (fl_X3_openedRow_1 (j := 26) rfl rfl) (fl_X3_openedRow_1 (j := 27) rfl rfl) rfl
theorem dX3_openedRow_92 : decode cX3_openedRow 92 = .ok (.bipush (-2), 2) := fq2_16 (fl_X3_openedRow_1 (j := 28) rfl rfl) (fl_X3_openedRow_1 (j := 29) rfl rfl) (by decide)
theorem dX3_openedRow_94 : decode cX3_openedRow 94 = .ok (.iastore, 1) := fq1_79 (fl_X3_openedRow_1 (j := 30) rfl rfl)
theorem dX3_openedRow_95 : decode cX3_openedRow 95 = .ok (.aload_n 0, 1) := fq1_42 (fl_X3_openedRow_1 (j := 31) rfl rfl)
theorem dX3_openedRow_96 : decode cX3_openedRow 96 = .ok (.getfield 23, 3) := fq3_180 (fl_X3_openedRow_1 (j := 32) rfl rfl) (fl_X3_openedRow_1 (j := 33) rfl rfl) (fl_X3_openedRow_1 (j := 34) rfl rfl) rfl
theorem dX3_openedRow_99 : decode cX3_openedRow 99 = .ok (.iload 5, 2) := fq2_21 (fl_X3_openedRow_1 (j := 35) rfl rfl) (fl_X3_openedRow_1 (j := 36) rfl rfl) rfl
theorem dX3_openedRow_101 : decode cX3_openedRow 101 = .ok (.bipush (-2), 2) := fq2_16 (fl_X3_openedRow_1 (j := 37) rfl rfl) (fl_X3_openedRow_1 (j := 38) rfl rfl) (by decide)
theorem dX3_openedRow_103 : decode cX3_openedRow 103 = .ok (.iastore, 1) := fq1_79 (fl_X3_openedRow_1 (j := 39) rfl rfl)
theorem dX3_openedRow_104 : decode cX3_openedRow 104 = .ok (.iinc 5 1, 3) := fq3_132 (fl_X3_openedRow_1 (j := 40) rfl rfl) (fl_X3_openedRow_1 (j := 41) rfl rfl) (fl_X3_openedRow_1 (j := 42) rfl rfl) rfl (s1p rfl (bl rfl))
theorem dX3_openedRow_107 : decode cX3_openedRow 107 = .ok (.goto (-32), 3) := fq3_167 (fl_X3_openedRow_1 (j := 43) rfl rfl) (fl_X3_openedRow_1 (j := 44) rfl rfl) (fl_X3_openedRow_1 (j := 45) rfl rfl) (by decide)
theorem dX3_openedRow_110 : decode cX3_openedRow 110 = .ok (.iload 4, 2) := fq2_21 (fl_X3_openedRow_1 (j := 46) rfl rfl) (fl_X3_openedRow_1 (j := 47) rfl rfl) rfl
theorem dX3_openedRow_112 : decode cX3_openedRow 112 = .ok (.ireturn, 1) := fq1_172 (fl_X3_openedRow_1 (j := 48) rfl rfl)
end

section
set_option maxHeartbeats 4000000 in
set_option maxRecDepth 100000 in
theorem k_compare (l : Launch) (D : va_G) (k : Nat → ClassId) (a b : Int) (ha : -2147483648 ≤ a ∧ a < 2147483648) (hb0 : -2147483648 ≤ b ∧ b < 2147483648) : RP l yJ6_compare_7cf53 cJ6_compare_7cf53 2 (some .int) 0 D k [.int (iZ a), .int (iZ b)] [] (fun z => (z = -1 ∧ a < b) ∨ (z = 0 ∧ a = b) ∨ (z = 1 ∧ b < a)) := by
  refine MRP (by decide) (Nat.le_of_ble_eq_true rfl) (fun p e s m below meth c ls hx hb hml hr hlocks hts hown hKK hP hl => ?_)
  have hK := hKK.1
  have hl : lv_has ls 2 [(0, .int (iZ a)), (1, .int (iZ b))] := hl
  refine lv_iload_n hx hb dJ6_compare_7cf53_0 rfl (lv_at hl 0 rfl) ?_
  refine lv_iload_n hx hb dJ6_compare_7cf53_1 rfl (lv_at hl 1 rfl) ?_
  refine lv_icmp_ge (tgt := 9) hx hb dJ6_compare_7cf53_2 rfl (fun c_1 => ?_) (fun c_1 => ?_)
  ·
    have c_1 := (zle (x := iZ b) (y := iZ a) rfl rfl ⟨by omega, by omega⟩ ⟨by omega, by omega⟩).mp c_1
    refine lv_iload_n hx hb dJ6_compare_7cf53_9 rfl (lv_at hl 0 rfl) ?_
    refine lv_iload_n hx hb dJ6_compare_7cf53_10 rfl (lv_at hl 1 rfl) ?_
    refine lv_icmp_ne (tgt := 18) hx hb dJ6_compare_7cf53_11 rfl (fun c_2 => ?_) (fun c_2 => ?_)
    ·
      have c_2 := mt (zeq (x := iZ a) (y := iZ b) rfl rfl ⟨by omega, by omega⟩ ⟨by omega, by omega⟩).mpr c_2
      refine lv_iconst (v := iZ 1) hx hb dJ6_compare_7cf53_18 rfl ?_
      exact EPi hx hb hr hlocks (by omega) dJ6_compare_7cf53_19
    ·
      have c_2 := (zeq (x := iZ a) (y := iZ b) rfl rfl ⟨by omega, by omega⟩ ⟨by omega, by omega⟩).mp c_2
      refine lv_iconst (v := iZ 0) hx hb dJ6_compare_7cf53_14 rfl ?_
      refine lv_goto (tgt := 19) hx hb dJ6_compare_7cf53_15 rfl ?_
      exact EPi hx hb hr hlocks (by omega) dJ6_compare_7cf53_19
  ·
    have c_1 := mt (zle (x := iZ b) (y := iZ a) rfl rfl ⟨by omega, by omega⟩ ⟨by omega, by omega⟩).mpr c_1
    refine lv_iconst (v := iZ (-1)) hx hb dJ6_compare_7cf53_5 rfl ?_
    refine lv_goto (tgt := 19) hx hb dJ6_compare_7cf53_6 rfl ?_
    exact EPi hx hb hr hlocks (by omega) dJ6_compare_7cf53_19
set_option maxHeartbeats 4000000 in
set_option maxRecDepth 100000 in
theorem k_openedRow (l : Launch) (D : va_G) (k : Nat → ClassId) (h hs : Nat) (r0 : Ry) (f g : Nat → Int32) (n ni : Int) (hn : n ≤ 6) (hRT : RT k (RX f g n ni) r0) (a b : Int) (ha0 : 0 ≤ a ∧ a < 6) (hb0 : 0 ≤ b ∧ b < 6) : XD (σ := (Int × Ry)) l yX3_openedRow cX3_openedRow 6 (some .int) 0 r0 D k [.ref h, .int (iZ a), .int (iZ b)] [(h, .inr (3, [.ref hs, .long r0.op, r0.vA, r0.vL]))] (fun u => u.2) (fun u => some (.int (iZ u.1))) (fun u => (u.1 = ((a * 6) + b) * 401 ∧ u.2.b = false ∧ OB u.2.op ((a * 6) + b) ∧ (∀ d : Int, 0 ≤ d → d < 36 → OB r0.op d → OB u.2.op d)) ∧ RT k (RX f g n ni) u.2) (fun u => [(h, .inr (3, [.ref hs, .long u.2.op, u.2.vA, u.2.vL]))]) := by
  refine MX (by decide) (Nat.le_of_ble_eq_true rfl) (fun p e s m below meth c ls A hx hb hml hr hlocks hin hts hown hKK hP hD hS hA hl => ?_)
  have hK := hKK.1
  have hl : lv_has ls 6 [(0, .ref h), (1, .int (iZ a)), (2, .int (iZ b))] := hl
  obtain ⟨r1, hr1⟩ : ∃ r1 : Ry, r1 = r0 := ⟨_, rfl⟩
  have rt1 : RT k (RX f g n ni) r1 := by rw [hr1]; exact hRT
  have hP : va_P D vwCl ((h, .inr (3, [.ref hs, .long r1.op, r1.vA, r1.vL])) :: r1.tl) s.heap := by rw [hr1]; exact hP
  have hD : va_D A ((h, .inr (3, [.ref hs, .long r1.op, r1.vA, r1.vL])) :: r1.tl) := by rw [hr1]; exact hD
  refine W.ceq (cells' := cz r0.b r1.b) (slots' := sz r0.b r1.b) (by rw [hr1]) (by rw [hr1]) ?_
  have hH0 := hr1
  rcases Bool.eq_false_or_eq_true r1.b with hm | hm
  ·
    obtain rfl := RT.not rt1 hm
    have hq : r0.b = true := congrArg Ry.b hr1.symm
    have hop : r0.op = 0 := congrArg Ry.op hr1.symm
    refine W.ceq (cells' := cz r0.b true) (slots' := sz r0.b true) rfl rfl ?_
    refine lv_iload_n hx hb dX3_openedRow_0 rfl (lv_at hl 1 rfl) ?_
    refine lv_bipush (v := iZ 6) hx hb dX3_openedRow_1 bip_6 ?_
    refine lv_imul hx hb dX3_openedRow_3 ?_
    refine lv_topi (fun x_1 ex_1 => ?_)
    obtain rfl : x_1 = iZ (a * 6) := ex_1.trans (iZ_mul a 6)
    refine lv_iload_n hx hb dX3_openedRow_4 rfl (lv_at hl 2 rfl) ?_
    refine lv_iadd hx hb dX3_openedRow_5 ?_
    refine lv_topi (fun x_2 ex_2 => ?_)
    obtain rfl : x_2 = iZ ((a * 6) + b) := ex_2.trans (iZ_add (a * 6) b)
    refine lv_istore_n (lv' := [(3, .int (iZ ((a * 6) + b))), (0, .ref h), (1, .int (iZ a)), (2, .int (iZ b))]) hx hb dX3_openedRow_6 rfl hl (bl rfl) rfl (fun ls hl => ?_)
    refine lv_iload_n hx hb dX3_openedRow_7 rfl (lv_at hl 0 rfl) ?_
    refine lv_sipush (v := iZ 401) hx hb dX3_openedRow_8 sip_401 ?_
    refine lv_imul hx hb dX3_openedRow_11 ?_
    refine lv_topi (fun x_3 ex_3 => ?_)
    obtain rfl : x_3 = iZ (((a * 6) + b) * 401) := ex_3.trans (iZ_mul ((a * 6) + b) 401)
    refine lv_istore (lv' := [(4, .int (iZ (((a * 6) + b) * 401))), (3, .int (iZ ((a * 6) + b))), (0, .ref h), (1, .int (iZ a)), (2, .int (iZ b))]) hx hb dX3_openedRow_12 hl (bl rfl) rfl (fun ls hl => ?_)
    refine lv_aload_n hx hb dX3_openedRow_14 rfl (lv_at hl 2 rfl) ?_
    refine va_get (D := D) (ci := 3) (v := .null) (C := RX3) (T := TX3) (N := 4) hx hb hts iX3 hown hK hP 0 rfl rfl 2 (bl rfl) (hts _ qf_X3_19) (fun _ h => h) rfl dX3_openedRow_15 ?_
    refine lv_ifnullN (tgt := 28) hx hb dX3_openedRow_18 rfl ?_
    refine lv_aload_n hx hb dX3_openedRow_28 rfl (lv_at hl 2 rfl) ?_
    refine lv_sipush (v := iZ 14436) hx hb dX3_openedRow_29 sip_14436 ?_
    refine nwa (atype := .int) (t := 1) (a0 := (14436, .inl (fun _ => 0))) hx hb (hts _ qa_int) rfl rfl hKK hP hD hS hA (fun _ => rfl) (by decide) (by decide +kernel) (by decide) (by show cz r0.b true + 1 ≤ rcN r0.b; rw [hq]; decide) (by show sz r0.b true + 14436 ≤ rsN r0.b; rw [hq]; exact Nat.le_of_ble_eq_true rfl) dX3_openedRow_32 (fun a_4 H hP hD hS => ?_)
    have rgzA : rgI (fun _ => 0) (-2) 420 14436 := rg_zero (by omega) (by omega)
    refine va_put (D := D) (ci := 3) (v := .ref a_4) (ty := (tyX3 2)) (C := RX3) (T := TX3) (N := 4) hx hb hts iX3 tyX3 tyX3_ok nmX3 hown hK hP hD hS 0 rfl rfl 2 (bl rfl) (hts _ qf_X3_19) (fun _ h => h) rfl (by decide +kernel) rfl rfl (Nat.le_of_ble_eq_true rfl) dX3_openedRow_34 (fun H locs hP hD hS => ?_)
    refine lv_aload_n hx hb dX3_openedRow_37 rfl (lv_at hl 2 rfl) ?_
    refine lv_sipush (v := iZ 14436) hx hb dX3_openedRow_38 sip_14436 ?_
    refine nwa (atype := .int) (t := 1) (a0 := (14436, .inl (fun _ => 0))) hx hb (hts _ qa_int) rfl rfl hKK hP hD hS hA (fun _ => rfl) (by decide) (by decide +kernel) (by decide) (by show cz r0.b true + 1 + 1 ≤ rcN r0.b; rw [hq]; decide) (by show sz r0.b true + 14436 + 14436 ≤ rsN r0.b; rw [hq]; exact Nat.le_of_ble_eq_true rfl) dX3_openedRow_41 (fun a_5 H hP hD hS => ?_)
    have rgzL : rgI (fun _ => 0) (-2) 400 14436 := rg_zero (by omega) (by omega)
    refine W.ceq (cells' := cz r0.b false) (slots' := sz r0.b false) (by rw [hq]; rfl) (by rw [hq]; rfl) ?_
    refine va_put (D := D) (ci := 3) (v := .ref a_5) (ty := (tyX3 3)) (C := RX3) (T := TX3) (N := 4) hx hb hts iX3 tyX3 tyX3_ok nmX3 hown hK hP hD hS 0 rfl rfl 3 (bl rfl) (hts _ qf_X3_23) (fun _ h => h) rfl (by decide +kernel) rfl rfl (Nat.le_of_ble_eq_true rfl) dX3_openedRow_43 (fun H locs hP hD hS => ?_)
    refine lv_aload_n hx hb dX3_openedRow_46 rfl (lv_at hl 2 rfl) ?_
    refine va_get (D := D) (ci := 3) (v := .long 0) (C := RX3) (T := TX3) (N := 4) hx hb hts iX3 hown hK hP 0 rfl rfl 1 (bl rfl) (hts _ qf_X3_15) (fun _ h => h) rfl dX3_openedRow_47 ?_
    refine lv_iload_n hx hb dX3_openedRow_50 rfl (lv_at hl 1 rfl) ?_
    refine lv_lshr (v := _) hx hb dX3_openedRow_51 rfl ?_
    refine lv_topl (fun y_6 ey_6 => ?_)
    refine lv_lconst (v := 1) hx hb dX3_openedRow_52 rfl ?_
    refine lv_land hx hb dX3_openedRow_53 ?_
    refine lv_topl (fun y_7 ey_7 => ?_)
    refine lv_lconst (v := 0) hx hb dX3_openedRow_54 rfl ?_
    refine W.lcmp hx hb dX3_openedRow_55 ?_
    have hoz := OB_z (op := 0) (c := ((a * 6) + b)) ⟨by omega, by omega⟩ ey_6 ey_7
    refine lv_if_ne (tgt := 110) hx hb dX3_openedRow_56 rfl (fun c_8 => ?_) (fun c_8 => ?_)
    ·
      refine lv_iload hx hb dX3_openedRow_110 (lv_at hl 0 rfl) ?_
      exact EXi hx hb hr hlocks (fun h => absurd (show false = true from h) (by decide)) hS ((((a * 6) + b) * 401), (madeR k a_4 a_5 (fun _ => 0) (fun _ => 0) 0)) rfl rfl ⟨⟨rfl, rfl, Classical.not_not.mp (fun h => c_8 (lgc_eq.mpr (hoz.mpr h))), (fun d h1 h2 h3 => (show OB 0 d from by rw [← hop]; exact h3))⟩, (RT.mk rgzA rgzL (RX.zero f g n ni _ _))⟩ (hP.sub [0, 1, 2] rfl) (hD.sub [0, 1, 2] rfl rfl) dX3_openedRow_112
    ·
      refine lv_aload_n hx hb dX3_openedRow_59 rfl (lv_at hl 2 rfl) ?_
      refine lv_dup hx hb dX3_openedRow_60 rfl ?_
      refine va_get (D := D) (ci := 3) (v := .long 0) (C := RX3) (T := TX3) (N := 4) hx hb hts iX3 hown hK hP 0 rfl rfl 1 (bl rfl) (hts _ qf_X3_15) (fun _ h => h) rfl dX3_openedRow_61 ?_
      refine lv_lconst (v := 1) hx hb dX3_openedRow_64 rfl ?_
      refine lv_iload_n hx hb dX3_openedRow_65 rfl (lv_at hl 1 rfl) ?_
      refine lv_lshl (v := _) hx hb dX3_openedRow_66 rfl ?_
      refine lv_topl (fun y_9 ey_9 => ?_)
      refine lv_lor hx hb dX3_openedRow_67 ?_
      refine lv_topl (fun y_10 ey_10 => ?_)
      refine va_put (D := D) (ci := 3) (v := .long y_10) (ty := .long) (C := RX3) (T := TX3) (N := 4) hx hb hts iX3 tyX3 tyX3_ok nmX3 hown hK hP hD hS 0 rfl rfl 1 (bl rfl) (hts _ qf_X3_15) (fun _ h => h) rfl (by decide +kernel) rfl rfl (Nat.le_of_ble_eq_true rfl) dX3_openedRow_68 (fun H locs hP hD hS => ?_)
      have hoo := fun (d : Int) (h1 : 0 ≤ d) (h2 : d < 36) => OB_or (op := 0) (c := ((a * 6) + b)) (d := d) ⟨by omega, by omega⟩ ⟨h1, h2⟩ ey_9 ey_10
      refine lv_iload hx hb dX3_openedRow_71 (lv_at hl 0 rfl) ?_
      refine lv_istore (lv' := [(5, .int (iZ (((a * 6) + b) * 401))), (4, .int (iZ (((a * 6) + b) * 401))), (3, .int (iZ ((a * 6) + b))), (0, .ref h), (1, .int (iZ a)), (2, .int (iZ b))]) hx hb dX3_openedRow_73 hl (bl rfl) rfl (fun ls hl => ?_)
      have HL1 : ∀ (fu : Nat) (i : Int) (g1 g2 : Nat → Int32) (H : Heap) (locs : List Loc) (ls : Array Slot), ((((a * 6) + b) * 401) + 402 - i) < (fu : Int) → (((a * 6) + b) * 401) ≤ i → i ≤ (((a * 6) + b) * 401) + 401 → rgI g1 (-2) 420 14436 → rgI g2 (-2) 400 14436 → (∀ j : Int, (((a * 6) + b) * 401) ≤ j → j < i → gz g1 j = -2 ∧ gz g2 j = -2) → (∀ j : Int, 0 ≤ j → (j < (((a * 6) + b) * 401) ∨ i ≤ j) → gz g1 j = gz (fun _ => 0) j ∧ gz g2 j = gz (fun _ => 0) j) → va_P D vwCl [(h, .inr (3, [.ref hs, .long y_10, .ref a_4, .ref a_5])), (a_4, .inl (k 1, 14436, .inl g1)), (a_5, .inl (k 1, 14436, .inl g2))] H → va_D A [(h, .inr (3, [.ref hs, .long y_10, .ref a_4, .ref a_5])), (a_4, .inl (k 1, 14436, .inl g1)), (a_5, .inl (k 1, 14436, .inl g2))] → va_S A s.heap H locs → lv_has ls 6 [(5, .int (iZ i)), (4, .int (iZ (((a * 6) + b) * 401))), (3, .int (iZ ((a * 6) + b))), (0, .ref h), (1, .int (iZ a)), (2, .int (iZ b))] → W p l e (rj 0 (rcN r0.b) (rsN r0.b)) s m [.ref h, .int (iZ a), .int (iZ b)].toArray below meth c H locs (cz r0.b false) (sz r0.b false) (MQ below (QX (σ := (Int × Ry)) r0.b (fun u => u.2) (fun u => some (.int (iZ u.1))) (fun u => (u.1 = ((a * 6) + b) * 401 ∧ u.2.b = false ∧ OB u.2.op ((a * 6) + b) ∧ (∀ d : Int, 0 ≤ d → d < 36 → OB r0.op d → OB u.2.op d)) ∧ RT k (RX f g n ni) u.2) (fun u => [(h, .inr (3, [.ref hs, .long u.2.op, u.2.vA, u.2.vL]))]) D A) [.ref h, .int (iZ a), .int (iZ b)].toArray s (rcN r0.b) (rsN r0.b) A) (F0 m 75 ls []) := by
        intro fu
        induction fu with
        | zero => intro i g1 g2 H locs ls hμ1 hi1 hi2 rg1 rg2 hg1 hg2 hP hD hS hl; exact absurd hμ1 (by omega)
        | succ fu ih1 =>
          intro i g1 g2 H locs ls hμ1 hi1 hi2 rg1 rg2 hg1 hg2 hP hD hS hl
          refine lv_iload hx hb dX3_openedRow_75 (lv_at hl 0 rfl) ?_
          refine lv_iload hx hb dX3_openedRow_77 (lv_at hl 1 rfl) ?_
          refine lv_sipush (v := iZ 401) hx hb dX3_openedRow_79 sip_401 ?_
          refine lv_iadd hx hb dX3_openedRow_82 ?_
          refine lv_topi (fun x_11 ex_11 => ?_)
          obtain rfl : x_11 = iZ ((((a * 6) + b) * 401) + 401) := ex_11.trans (iZ_add (((a * 6) + b) * 401) 401)
          refine lv_icmp_ge (tgt := 110) hx hb dX3_openedRow_83 rfl (fun c_12 => ?_) (fun c_12 => ?_)
          ·
            have c_12 := (zle (x := iZ ((((a * 6) + b) * 401) + 401)) (y := iZ i) rfl rfl ⟨by omega, by omega⟩ ⟨by omega, by omega⟩).mp c_12
            refine lv_iload hx hb dX3_openedRow_110 (lv_at hl 1 rfl) ?_
            exact EXi hx hb hr hlocks (fun h => absurd (show false = true from h) (by decide)) hS ((((a * 6) + b) * 401), (madeR k a_4 a_5 g1 g2 y_10)) rfl rfl ⟨⟨rfl, rfl, (hoo ((a * 6) + b) (by omega) (by omega)).mpr (Or.inr rfl), (fun d h1 h2 h3 => (hoo d h1 h2).mpr (Or.inl (show OB 0 d from by rw [← hop]; exact h3)))⟩, (RT.mk rg1 rg2 (RX.opn (RX.zero f g n ni _ _) hn (fun d h1 h2 h3 => (hoo d h1 h2).mp h3) (fun j h1 h2 => hg1 j h1 (by omega)) (fun j h1 h2 => hg2 j h1 (by omega))))⟩ (hP.sub [0, 1, 2] rfl) (hD.sub [0, 1, 2] rfl rfl) dX3_openedRow_112
          ·
            have c_12 := mt (zle (x := iZ ((((a * 6) + b) * 401) + 401)) (y := iZ i) rfl rfl ⟨by omega, by omega⟩ ⟨by omega, by omega⟩).mpr c_12
            refine lv_aload_n hx hb dX3_openedRow_86 rfl (lv_at hl 3 rfl) ?_
            refine va_get (D := D) (ci := 3) (v := .ref a_4) (C := RX3) (T := TX3) (N := 4) hx hb hts iX3 hown hK hP 0 rfl rfl 2 (bl rfl) (hts _ qf_X3_19) (fun _ h => h) rfl dX3_openedRow_87 ?_
            refine lv_iload hx hb dX3_openedRow_90 (lv_at hl 0 rfl) ?_
            refine lv_bipush (v := iZ (-2)) hx hb dX3_openedRow_92 bip_m2 ?_
            refine va_iast hx hb hK hP hD hS 1 1 rfl rfl (zin (e := i) (n := 14436) ⟨by omega, by omega⟩ (bl rfl)) dX3_openedRow_94 (fun H locs hP hD hS => ?_)
            obtain ⟨f_13, hf_13⟩ : ∃ gg9, gg9 = upd g1 (iZ i).toNatClampNeg (iZ (-2)) := ⟨_, rfl⟩
            rw [← hf_13] at hP hD
            have rgf_13 := rg_upd rg1 hf_13 (by omega) ⟨by omega, by omega⟩ ⟨by omega, by omega⟩
            refine lv_aload_n hx hb dX3_openedRow_95 rfl (lv_at hl 3 rfl) ?_
            refine va_get (D := D) (ci := 3) (v := .ref a_5) (C := RX3) (T := TX3) (N := 4) hx hb hts iX3 hown hK hP 0 rfl rfl 3 (bl rfl) (hts _ qf_X3_23) (fun _ h => h) rfl dX3_openedRow_96 ?_
            refine lv_iload hx hb dX3_openedRow_99 (lv_at hl 0 rfl) ?_
            refine lv_bipush (v := iZ (-2)) hx hb dX3_openedRow_101 bip_m2 ?_
            refine va_iast hx hb hK hP hD hS 2 1 rfl rfl (zin (e := i) (n := 14436) ⟨by omega, by omega⟩ (bl rfl)) dX3_openedRow_103 (fun H locs hP hD hS => ?_)
            obtain ⟨f_14, hf_14⟩ : ∃ gg9, gg9 = upd g2 (iZ i).toNatClampNeg (iZ (-2)) := ⟨_, rfl⟩
            rw [← hf_14] at hP hD
            have rgf_14 := rg_upd rg2 hf_14 (by omega) ⟨by omega, by omega⟩ ⟨by omega, by omega⟩
            refine lv_iinc (v := iZ (i + 1)) (lv' := [(5, .int (iZ (i + 1))), (4, .int (iZ (((a * 6) + b) * 401))), (3, .int (iZ ((a * 6) + b))), (0, .ref h), (1, .int (iZ a)), (2, .int (iZ b))]) hx hb dX3_openedRow_104 hl (k := 0) rfl (iZ_add i 1) (by decide) rfl (fun ls hl => ?_)
            refine lv_goto (tgt := 75) hx hb dX3_openedRow_107 rfl ?_
            exact ih1  (i + 1) _ _ _ _ _ (by omega) (by omega) (by omega) rgf_13 rgf_14 (fun j h1 h2 => by have c1 := gz_upc (j := j) hf_13 ⟨by omega, by omega⟩ ⟨by omega, by omega⟩ (by omega); have c2 := gz_upc (j := j) hf_14 ⟨by omega, by omega⟩ ⟨by omega, by omega⟩ (by omega); rcases Int.lt_or_eq_of_le (show j ≤ i by omega) with h3 | h3; have := hg1 j h1 h3; omega; omega) (fun j h1 h2 => by have c1 := gz_upc (j := j) hf_13 ⟨by omega, by omega⟩ ⟨by omega, by omega⟩ (by omega); have c2 := gz_upc (j := j) hf_14 ⟨by omega, by omega⟩ ⟨by omega, by omega⟩ (by omega); have := hg2 j h1 (by omega); omega) (hP.sub [0, 1, 2] rfl) (hD.sub [0, 1, 2] rfl rfl) hS (lv_sub hl [0, 1, 2, 3, 4, 5] rfl)
      exact HL1 403 (((a * 6) + b) * 401) _ _ _ _ _ (by omega) (by omega) (by omega) rgzA rgzL (fun j h1 h2 => absurd h1 (by omega)) (fun j h1 h2 => ⟨rfl, rfl⟩) (hP.sub [0, 1, 2] rfl) (hD.sub [0, 1, 2] rfl rfl) hS (lv_sub hl [0, 1, 2, 3, 4, 5] rfl)
  ·
    obtain ⟨ha_15, hl_16, fa_17, fl_18, op_19, rfl, rgah_20, rglh_20, rxh_20⟩ := RT.made rt1 hm
    refine W.ceq (cells' := cz r0.b false) (slots' := sz r0.b false) rfl rfl ?_
    have hop : r0.op = op_19 := congrArg Ry.op hr1.symm
    refine lv_iload_n hx hb dX3_openedRow_0 rfl (lv_at hl 1 rfl) ?_
    refine lv_bipush (v := iZ 6) hx hb dX3_openedRow_1 bip_6 ?_
    refine lv_imul hx hb dX3_openedRow_3 ?_
    refine lv_topi (fun x_21 ex_21 => ?_)
    obtain rfl : x_21 = iZ (a * 6) := ex_21.trans (iZ_mul a 6)
    refine lv_iload_n hx hb dX3_openedRow_4 rfl (lv_at hl 2 rfl) ?_
    refine lv_iadd hx hb dX3_openedRow_5 ?_
    refine lv_topi (fun x_22 ex_22 => ?_)
    obtain rfl : x_22 = iZ ((a * 6) + b) := ex_22.trans (iZ_add (a * 6) b)
    refine lv_istore_n (lv' := [(3, .int (iZ ((a * 6) + b))), (0, .ref h), (1, .int (iZ a)), (2, .int (iZ b))]) hx hb dX3_openedRow_6 rfl hl (bl rfl) rfl (fun ls hl => ?_)
    refine lv_iload_n hx hb dX3_openedRow_7 rfl (lv_at hl 0 rfl) ?_
    refine lv_sipush (v := iZ 401) hx hb dX3_openedRow_8 sip_401 ?_
    refine lv_imul hx hb dX3_openedRow_11 ?_
    refine lv_topi (fun x_23 ex_23 => ?_)
    obtain rfl : x_23 = iZ (((a * 6) + b) * 401) := ex_23.trans (iZ_mul ((a * 6) + b) 401)
    refine lv_istore (lv' := [(4, .int (iZ (((a * 6) + b) * 401))), (3, .int (iZ ((a * 6) + b))), (0, .ref h), (1, .int (iZ a)), (2, .int (iZ b))]) hx hb dX3_openedRow_12 hl (bl rfl) rfl (fun ls hl => ?_)
    refine lv_aload_n hx hb dX3_openedRow_14 rfl (lv_at hl 2 rfl) ?_
    refine va_get (D := D) (ci := 3) (v := .ref ha_15) (C := RX3) (T := TX3) (N := 4) hx hb hts iX3 hown hK hP 0 rfl rfl 2 (bl rfl) (hts _ qf_X3_19) (fun _ h => h) rfl dX3_openedRow_15 ?_
    refine lv_ifnull hx hb dX3_openedRow_18 ?_
    refine lv_aload_n hx hb dX3_openedRow_21 rfl (lv_at hl 2 rfl) ?_
    refine va_get (D := D) (ci := 3) (v := .ref hl_16) (C := RX3) (T := TX3) (N := 4) hx hb hts iX3 hown hK hP 0 rfl rfl 3 (bl rfl) (hts _ qf_X3_23) (fun _ h => h) rfl dX3_openedRow_22 ?_
    refine lv_ifnonnull (tgt := 46) hx hb dX3_openedRow_25 rfl ?_
    refine lv_aload_n hx hb dX3_openedRow_46 rfl (lv_at hl 2 rfl) ?_
    refine va_get (D := D) (ci := 3) (v := .long op_19) (C := RX3) (T := TX3) (N := 4) hx hb hts iX3 hown hK hP 0 rfl rfl 1 (bl rfl) (hts _ qf_X3_15) (fun _ h => h) rfl dX3_openedRow_47 ?_
    refine lv_iload_n hx hb dX3_openedRow_50 rfl (lv_at hl 1 rfl) ?_
    refine lv_lshr (v := _) hx hb dX3_openedRow_51 rfl ?_
    refine lv_topl (fun y_24 ey_24 => ?_)
    refine lv_lconst (v := 1) hx hb dX3_openedRow_52 rfl ?_
    refine lv_land hx hb dX3_openedRow_53 ?_
    refine lv_topl (fun y_25 ey_25 => ?_)
    refine lv_lconst (v := 0) hx hb dX3_openedRow_54 rfl ?_
    refine W.lcmp hx hb dX3_openedRow_55 ?_
    have hoz := OB_z (op := op_19) (c := ((a * 6) + b)) ⟨by omega, by omega⟩ ey_24 ey_25
    refine lv_if_ne (tgt := 110) hx hb dX3_openedRow_56 rfl (fun c_26 => ?_) (fun c_26 => ?_)
    ·
      refine lv_iload hx hb dX3_openedRow_110 (lv_at hl 0 rfl) ?_
      exact EXi hx hb hr hlocks (fun h => absurd (show false = true from h) (by decide)) hS ((((a * 6) + b) * 401), (madeR k ha_15 hl_16 fa_17 fl_18 op_19)) rfl rfl ⟨⟨rfl, rfl, Classical.not_not.mp (fun h => c_26 (lgc_eq.mpr (hoz.mpr h))), (fun d h1 h2 h3 => (show OB op_19 d from by rw [← hop]; exact h3))⟩, (RT.mk rgah_20 rglh_20 rxh_20)⟩ (hP.sub [0, 1, 2] rfl) (hD.sub [0, 1, 2] rfl rfl) dX3_openedRow_112
    ·
      refine lv_aload_n hx hb dX3_openedRow_59 rfl (lv_at hl 2 rfl) ?_
      refine lv_dup hx hb dX3_openedRow_60 rfl ?_
      refine va_get (D := D) (ci := 3) (v := .long op_19) (C := RX3) (T := TX3) (N := 4) hx hb hts iX3 hown hK hP 0 rfl rfl 1 (bl rfl) (hts _ qf_X3_15) (fun _ h => h) rfl dX3_openedRow_61 ?_
      refine lv_lconst (v := 1) hx hb dX3_openedRow_64 rfl ?_
      refine lv_iload_n hx hb dX3_openedRow_65 rfl (lv_at hl 1 rfl) ?_
      refine lv_lshl (v := _) hx hb dX3_openedRow_66 rfl ?_
      refine lv_topl (fun y_27 ey_27 => ?_)
      refine lv_lor hx hb dX3_openedRow_67 ?_
      refine lv_topl (fun y_28 ey_28 => ?_)
      refine va_put (D := D) (ci := 3) (v := .long y_28) (ty := .long) (C := RX3) (T := TX3) (N := 4) hx hb hts iX3 tyX3 tyX3_ok nmX3 hown hK hP hD hS 0 rfl rfl 1 (bl rfl) (hts _ qf_X3_15) (fun _ h => h) rfl (by decide +kernel) rfl rfl (Nat.le_of_ble_eq_true rfl) dX3_openedRow_68 (fun H locs hP hD hS => ?_)
      have hoo := fun (d : Int) (h1 : 0 ≤ d) (h2 : d < 36) => OB_or (op := op_19) (c := ((a * 6) + b)) (d := d) ⟨by omega, by omega⟩ ⟨h1, h2⟩ ey_27 ey_28
      refine lv_iload hx hb dX3_openedRow_71 (lv_at hl 0 rfl) ?_
      refine lv_istore (lv' := [(5, .int (iZ (((a * 6) + b) * 401))), (4, .int (iZ (((a * 6) + b) * 401))), (3, .int (iZ ((a * 6) + b))), (0, .ref h), (1, .int (iZ a)), (2, .int (iZ b))]) hx hb dX3_openedRow_73 hl (bl rfl) rfl (fun ls hl => ?_)
      have HL1 : ∀ (fu : Nat) (i : Int) (g1 g2 : Nat → Int32) (H : Heap) (locs : List Loc) (ls : Array Slot), ((((a * 6) + b) * 401) + 402 - i) < (fu : Int) → (((a * 6) + b) * 401) ≤ i → i ≤ (((a * 6) + b) * 401) + 401 → rgI g1 (-2) 420 14436 → rgI g2 (-2) 400 14436 → (∀ j : Int, (((a * 6) + b) * 401) ≤ j → j < i → gz g1 j = -2 ∧ gz g2 j = -2) → (∀ j : Int, 0 ≤ j → (j < (((a * 6) + b) * 401) ∨ i ≤ j) → gz g1 j = gz fa_17 j ∧ gz g2 j = gz fl_18 j) → va_P D vwCl [(h, .inr (3, [.ref hs, .long y_28, .ref ha_15, .ref hl_16])), (ha_15, .inl (k 1, 14436, .inl g1)), (hl_16, .inl (k 1, 14436, .inl g2))] H → va_D A [(h, .inr (3, [.ref hs, .long y_28, .ref ha_15, .ref hl_16])), (ha_15, .inl (k 1, 14436, .inl g1)), (hl_16, .inl (k 1, 14436, .inl g2))] → va_S A s.heap H locs → lv_has ls 6 [(5, .int (iZ i)), (4, .int (iZ (((a * 6) + b) * 401))), (3, .int (iZ ((a * 6) + b))), (0, .ref h), (1, .int (iZ a)), (2, .int (iZ b))] → W p l e (rj 0 (rcN r0.b) (rsN r0.b)) s m [.ref h, .int (iZ a), .int (iZ b)].toArray below meth c H locs (cz r0.b false) (sz r0.b false) (MQ below (QX (σ := (Int × Ry)) r0.b (fun u => u.2) (fun u => some (.int (iZ u.1))) (fun u => (u.1 = ((a * 6) + b) * 401 ∧ u.2.b = false ∧ OB u.2.op ((a * 6) + b) ∧ (∀ d : Int, 0 ≤ d → d < 36 → OB r0.op d → OB u.2.op d)) ∧ RT k (RX f g n ni) u.2) (fun u => [(h, .inr (3, [.ref hs, .long u.2.op, u.2.vA, u.2.vL]))]) D A) [.ref h, .int (iZ a), .int (iZ b)].toArray s (rcN r0.b) (rsN r0.b) A) (F0 m 75 ls []) := by
        intro fu
        induction fu with
        | zero => intro i g1 g2 H locs ls hμ1 hi1 hi2 rg1 rg2 hg1 hg2 hP hD hS hl; exact absurd hμ1 (by omega)
        | succ fu ih1 =>
          intro i g1 g2 H locs ls hμ1 hi1 hi2 rg1 rg2 hg1 hg2 hP hD hS hl
          refine lv_iload hx hb dX3_openedRow_75 (lv_at hl 0 rfl) ?_
          refine lv_iload hx hb dX3_openedRow_77 (lv_at hl 1 rfl) ?_
          refine lv_sipush (v := iZ 401) hx hb dX3_openedRow_79 sip_401 ?_
          refine lv_iadd hx hb dX3_openedRow_82 ?_
          refine lv_topi (fun x_29 ex_29 => ?_)
          obtain rfl : x_29 = iZ ((((a * 6) + b) * 401) + 401) := ex_29.trans (iZ_add (((a * 6) + b) * 401) 401)
          refine lv_icmp_ge (tgt := 110) hx hb dX3_openedRow_83 rfl (fun c_30 => ?_) (fun c_30 => ?_)
          ·
            have c_30 := (zle (x := iZ ((((a * 6) + b) * 401) + 401)) (y := iZ i) rfl rfl ⟨by omega, by omega⟩ ⟨by omega, by omega⟩).mp c_30
            refine lv_iload hx hb dX3_openedRow_110 (lv_at hl 1 rfl) ?_
            exact EXi hx hb hr hlocks (fun h => absurd (show false = true from h) (by decide)) hS ((((a * 6) + b) * 401), (madeR k ha_15 hl_16 g1 g2 y_28)) rfl rfl ⟨⟨rfl, rfl, (hoo ((a * 6) + b) (by omega) (by omega)).mpr (Or.inr rfl), (fun d h1 h2 h3 => (hoo d h1 h2).mpr (Or.inl (show OB op_19 d from by rw [← hop]; exact h3)))⟩, (RT.mk rg1 rg2 (RX.opn rxh_20 hn (fun d h1 h2 h3 => (hoo d h1 h2).mp h3) (fun j h1 h2 => hg1 j h1 (by omega)) (fun j h1 h2 => hg2 j h1 (by omega))))⟩ (hP.sub [0, 1, 2] rfl) (hD.sub [0, 1, 2] rfl rfl) dX3_openedRow_112
          ·
            have c_30 := mt (zle (x := iZ ((((a * 6) + b) * 401) + 401)) (y := iZ i) rfl rfl ⟨by omega, by omega⟩ ⟨by omega, by omega⟩).mpr c_30
            refine lv_aload_n hx hb dX3_openedRow_86 rfl (lv_at hl 3 rfl) ?_
            refine va_get (D := D) (ci := 3) (v := .ref ha_15) (C := RX3) (T := TX3) (N := 4) hx hb hts iX3 hown hK hP 0 rfl rfl 2 (bl rfl) (hts _ qf_X3_19) (fun _ h => h) rfl dX3_openedRow_87 ?_
            refine lv_iload hx hb dX3_openedRow_90 (lv_at hl 0 rfl) ?_
            refine lv_bipush (v := iZ (-2)) hx hb dX3_openedRow_92 bip_m2 ?_
            refine va_iast hx hb hK hP hD hS 1 1 rfl rfl (zin (e := i) (n := 14436) ⟨by omega, by omega⟩ (bl rfl)) dX3_openedRow_94 (fun H locs hP hD hS => ?_)
            obtain ⟨f_31, hf_31⟩ : ∃ gg9, gg9 = upd g1 (iZ i).toNatClampNeg (iZ (-2)) := ⟨_, rfl⟩
            rw [← hf_31] at hP hD
            have rgf_31 := rg_upd rg1 hf_31 (by omega) ⟨by omega, by omega⟩ ⟨by omega, by omega⟩
            refine lv_aload_n hx hb dX3_openedRow_95 rfl (lv_at hl 3 rfl) ?_
            refine va_get (D := D) (ci := 3) (v := .ref hl_16) (C := RX3) (T := TX3) (N := 4) hx hb hts iX3 hown hK hP 0 rfl rfl 3 (bl rfl) (hts _ qf_X3_23) (fun _ h => h) rfl dX3_openedRow_96 ?_
            refine lv_iload hx hb dX3_openedRow_99 (lv_at hl 0 rfl) ?_
            refine lv_bipush (v := iZ (-2)) hx hb dX3_openedRow_101 bip_m2 ?_
            refine va_iast hx hb hK hP hD hS 2 1 rfl rfl (zin (e := i) (n := 14436) ⟨by omega, by omega⟩ (bl rfl)) dX3_openedRow_103 (fun H locs hP hD hS => ?_)
            obtain ⟨f_32, hf_32⟩ : ∃ gg9, gg9 = upd g2 (iZ i).toNatClampNeg (iZ (-2)) := ⟨_, rfl⟩
            rw [← hf_32] at hP hD
            have rgf_32 := rg_upd rg2 hf_32 (by omega) ⟨by omega, by omega⟩ ⟨by omega, by omega⟩
            refine lv_iinc (v := iZ (i + 1)) (lv' := [(5, .int (iZ (i + 1))), (4, .int (iZ (((a * 6) + b) * 401))), (3, .int (iZ ((a * 6) + b))), (0, .ref h), (1, .int (iZ a)), (2, .int (iZ b))]) hx hb dX3_openedRow_104 hl (k := 0) rfl (iZ_add i 1) (by decide) rfl (fun ls hl => ?_)
            refine lv_goto (tgt := 75) hx hb dX3_openedRow_107 rfl ?_
            exact ih1  (i + 1) _ _ _ _ _ (by omega) (by omega) (by omega) rgf_31 rgf_32 (fun j h1 h2 => by have c1 := gz_upc (j := j) hf_31 ⟨by omega, by omega⟩ ⟨by omega, by omega⟩ (by omega); have c2 := gz_upc (j := j) hf_32 ⟨by omega, by omega⟩ ⟨by omega, by omega⟩ (by omega); rcases Int.lt_or_eq_of_le (show j ≤ i by omega) with h3 | h3; have := hg1 j h1 h3; omega; omega) (fun j h1 h2 => by have c1 := gz_upc (j := j) hf_31 ⟨by omega, by omega⟩ ⟨by omega, by omega⟩ (by omega); have c2 := gz_upc (j := j) hf_32 ⟨by omega, by omega⟩ ⟨by omega, by omega⟩ (by omega); have := hg2 j h1 (by omega); omega) (hP.sub [0, 1, 2] rfl) (hD.sub [0, 1, 2] rfl rfl) hS (lv_sub hl [0, 1, 2, 3, 4, 5] rfl)
      exact HL1 403 (((a * 6) + b) * 401) _ _ _ _ _ (by omega) (by omega) (by omega) rgah_20 rglh_20 (fun j h1 h2 => absurd h1 (by omega)) (fun j h1 h2 => ⟨rfl, rfl⟩) (hP.sub [0, 1, 2] rfl) (hD.sub [0, 1, 2] rfl rfl) hS (lv_sub hl [0, 1, 2, 3, 4, 5] rfl)
theorem bz_01 (P : Prop) : bz P = 0 ∨ bz P = 1 := by
  by_cases h : P
  · exact Or.inr (bz_t h)
  · exact Or.inl (bz_f h)
set_option maxHeartbeats 4000000 in
set_option maxRecDepth 100000 in
theorem k_arrival (l : Launch) (D : va_G) (k : Nat → ClassId) (h hs : Nat) (r0 : Ry) {P0 : RP_} (hRT : (RT k) P0 r0) (fs : List Value) (hf hg : Nat) (f1 : fs[1]? = some (.ref hf)) (f2 : fs[2]? = some (.ref hg)) (f g : Nat → Int32) (n : Int) (hn : n ≤ 6) (hx0 : FXI f n) (ni : Int) (f4 : fs[4]? = some (.int (iZ ni))) (hni : 0 ≤ ni ∧ ni ≤ 8) (hQ0 : P0 = RX f g n ni) (a w b : Int) (ha0 : 0 ≤ a ∧ a < n) (hb0 : 0 ≤ b ∧ b < n) (hw : -2147483648 ≤ w ∧ w < 2147483648) : XD (σ := (Int × Ry)) l yX3_arrival cX3_arrival 7 (some .int) 1 r0 D k [.ref h, .int (iZ a), .int (iZ w), .int (iZ b)] [(h, .inr (3, [.ref hs, .long r0.op, r0.vA, r0.vL])), (hs, .inr (5, fs)), (hf, .inl (k 1, 36, .inl f)), (hg, .inl (k 1, 32, .inl g))] (fun u => u.2) (fun u => some (.int (iZ u.1))) (fun u => ((-1 ≤ u.1 ∧ u.1 ≤ 420) ∧ u.1 = arN f g ni a w b ∧ (∀ d : Int, 0 ≤ d → d < 36 → OB r0.op d → OB u.2.op d)) ∧ RT k (RX f g n ni) u.2) (fun u => [(h, .inr (3, [.ref hs, .long u.2.op, u.2.vA, u.2.vL])), (hs, .inr (5, fs)), (hf, .inl (k 1, 36, .inl f)), (hg, .inl (k 1, 32, .inl g))]) := by
  refine MX (by decide) (Nat.le_of_ble_eq_true rfl) (fun p e s m below meth c ls A hx hb hml hr hlocks hin hts hown hKK hP hD hS hA hl => ?_)
  have hK := hKK.1
  have hl : lv_has ls 7 [(0, .ref h), (1, .int (iZ a)), (2, .int (iZ w)), (3, .int (iZ b))] := hl
  subst hQ0
  refine lv_iload_n hx hb dX3_arrival_0 rfl (lv_at hl 2 rfl) ?_
  refine lv_if_lt (tgt := 11) hx hb dX3_arrival_1 rfl (fun c_1 => ?_) (fun c_1 => ?_)
  ·
    have c_1 := (zlt (x := iZ w) (y := iZ 0) rfl rfl ⟨by omega, by omega⟩ wn_0).mp c_1
    refine lv_iconst (v := iZ (-1)) hx hb dX3_arrival_11 rfl ?_
    exact EXi hx hb hr hlocks (fun h => h) hS ((-1), r0) rfl rfl ⟨⟨⟨by omega, by omega⟩, (arN_o (by omega)).symm, (fun d h1 h2 h3 => h3)⟩, hRT⟩ (va_P.subT (pre := [(h, .inr (3, [.ref hs, .long r0.op, r0.vA, r0.vL])), (hs, .inr (5, fs)), (hf, .inl (k 1, 36, .inl f)), (hg, .inl (k 1, 32, .inl g))]) (pre' := [(h, .inr (3, [.ref hs, .long r0.op, r0.vA, r0.vL])), (hs, .inr (5, fs)), (hf, .inl (k 1, 36, .inl f)), (hg, .inl (k 1, 32, .inl g))]) (tl := r0.tl) hP [0, 1, 2, 3] rfl) (va_D.subT (pre := [(h, .inr (3, [.ref hs, .long r0.op, r0.vA, r0.vL])), (hs, .inr (5, fs)), (hf, .inl (k 1, 36, .inl f)), (hg, .inl (k 1, 32, .inl g))]) (pre' := [(h, .inr (3, [.ref hs, .long r0.op, r0.vA, r0.vL])), (hs, .inr (5, fs)), (hf, .inl (k 1, 36, .inl f)), (hg, .inl (k 1, 32, .inl g))]) (tl := r0.tl) hD [0, 1, 2, 3] rfl rfl) dX3_arrival_12
  ·
    have c_1 := mt (zlt (x := iZ w) (y := iZ 0) rfl rfl ⟨by omega, by omega⟩ wn_0).mpr c_1
    refine lv_iload_n hx hb dX3_arrival_4 rfl (lv_at hl 2 rfl) ?_
    refine lv_sipush (v := iZ 400) hx hb dX3_arrival_5 sip_400 ?_
    refine lv_icmp_le (tgt := 13) hx hb dX3_arrival_8 rfl (fun c_2 => ?_) (fun c_2 => ?_)
    ·
      have c_2 := (zle (x := iZ w) (y := iZ 400) rfl rfl ⟨by omega, by omega⟩ wn_400).mp c_2
      refine lv_iload_n hx hb dX3_arrival_13 rfl (lv_at hl 1 rfl) ?_
      refine lv_iload_n hx hb dX3_arrival_14 rfl (lv_at hl 3 rfl) ?_
      refine lv_icmp_ne (tgt := 20) hx hb dX3_arrival_15 rfl (fun c_3 => ?_) (fun c_3 => ?_)
      ·
        have c_3 := mt (zeq (x := iZ a) (y := iZ b) rfl rfl ⟨by omega, by omega⟩ ⟨by omega, by omega⟩).mpr c_3
        refine lv_aload_n hx hb dX3_arrival_20 rfl (lv_at hl 0 rfl) ?_
        refine lv_iload_n hx hb dX3_arrival_21 rfl (lv_at hl 1 rfl) ?_
        refine lv_iload_n hx hb dX3_arrival_22 rfl (lv_at hl 3 rfl) ?_
        refine CXV (r := r0) (b0 := r0.b) (As := [.int (iZ a), .int (iZ b)]) (rest := []) (ws := [(h, .inr (3, [.ref hs, .long r0.op, r0.vA, r0.vL])), (hs, .inr (5, fs)), (hf, .inl (k 1, 36, .inl f)), (hg, .inl (k 1, 32, .inl g))]) (wc := _) (wr := [(hs, .inr (5, fs)), (hf, .inl (k 1, 36, .inl f)), (hg, .inl (k 1, 32, .inl g))]) hx hb hml hown hts hKK hP hD hS hA (fun h => h) (k_openedRow l D k h hs r0 f g n ni hn hRT a b ⟨by omega, by omega⟩ ⟨by omega, by omega⟩) ci_X3_openedRow qm_X3_26 ⟨Nat.le_of_ble_eq_true rfl, Nat.le_of_ble_eq_true rfl⟩ ⟨rfl, rfl⟩ [0] [1, 2, 3] rfl rfl rfl rfl rfl (dj rfl) 0 rfl rfl rfl hl.1 rfl (Nat.le_of_ble_eq_true rfl) dX3_arrival_23 (fun u_4 H locs hφ hP hD hS hb1 => ?_)
        obtain ⟨z_6, r_7⟩ := u_4
        obtain ⟨⟨hzz_6, hmr_7, hor_7, mor_7⟩, rtr_7⟩ := hφ
        dsimp only at hzz_6 hor_7 mor_7
        subst hzz_6
        have hmr_7 : r_7.b = false := hmr_7
        have rtr_7 : RT k (RX f g n ni) r_7 := rtr_7
        have hbh_5 : r_7.b = true → r0.b = true := fun h => (fun h => h) (hb1 h)
        refine W.ceq (cells' := cz r0.b r_7.b) (slots' := sz r0.b r_7.b) rfl rfl ?_
        refine W.eq (g2 := F0 m 26 ls [.int (iZ (((a * 6) + b) * 401))]) rfl ?_
        obtain ⟨ha_8, hl_9, fa_10, fl_11, op_12, rfl, rgah_13, rglh_13, rxh_13⟩ := RT.made rtr_7 hmr_7
        refine W.ceq (cells' := cz r0.b false) (slots' := sz r0.b false) rfl rfl ?_
        refine lv_iload_n hx hb dX3_arrival_26 rfl (lv_at hl 2 rfl) ?_
        refine lv_iadd hx hb dX3_arrival_27 ?_
        refine lv_topi (fun x_14 ex_14 => ?_)
        obtain rfl : x_14 = iZ ((((a * 6) + b) * 401) + w) := ex_14.trans (iZ_add (((a * 6) + b) * 401) w)
        refine lv_istore (lv' := [(4, .int (iZ ((((a * 6) + b) * 401) + w))), (0, .ref h), (1, .int (iZ a)), (2, .int (iZ w)), (3, .int (iZ b))]) hx hb dX3_arrival_28 hl (bl rfl) rfl (fun ls hl => ?_)
        refine lv_aload_n hx hb dX3_arrival_30 rfl (lv_at hl 1 rfl) ?_
        refine va_get (D := D) (ci := 3) (v := .ref ha_8) (C := RX3) (T := TX3) (N := 4) hx hb hts iX3 hown hK hP 3 rfl rfl 2 (bl rfl) (hts _ qf_X3_19) (fun _ h => h) rfl dX3_arrival_31 ?_
        refine lv_iload hx hb dX3_arrival_34 (lv_at hl 0 rfl) ?_
        refine va_iald hx hb hK hP 4 1 rfl rfl (zin (e := ((((a * 6) + b) * 401) + w)) (n := 14436) ⟨by omega, by omega⟩ (bl rfl)) dX3_arrival_36 ?_
        refine lv_topi (fun x_15 ex_15 => ?_)
        obtain rfl : x_15 = iZ (gz fa_10 ((((a * 6) + b) * 401) + w)) := ex_15.trans (gz_eq ⟨by omega, by omega⟩)
        have h_16 := rgah_13 ((((a * 6) + b) * 401) + w) (by omega) (by omega)
        refine lv_bipush (v := iZ (-2)) hx hb dX3_arrival_37 bip_m2 ?_
        refine lv_icmp_ne (tgt := 127) hx hb dX3_arrival_39 rfl (fun c_17 => ?_) (fun c_17 => ?_)
        ·
          have c_17 := mt (zeq (x := iZ (gz fa_10 ((((a * 6) + b) * 401) + w))) (y := iZ (-2)) rfl rfl (gz_rg fa_10 ((((a * 6) + b) * 401) + w)) wn_m2).mpr c_17
          refine lv_aload_n hx hb dX3_arrival_127 rfl (lv_at hl 1 rfl) ?_
          refine va_get (D := D) (ci := 3) (v := .ref ha_8) (C := RX3) (T := TX3) (N := 4) hx hb hts iX3 hown hK hP 3 rfl rfl 2 (bl rfl) (hts _ qf_X3_19) (fun _ h => h) rfl dX3_arrival_128 ?_
          refine lv_iload hx hb dX3_arrival_131 (lv_at hl 0 rfl) ?_
          refine va_iald hx hb hK hP 4 1 rfl rfl (zin (e := ((((a * 6) + b) * 401) + w)) (n := 14436) ⟨by omega, by omega⟩ (bl rfl)) dX3_arrival_133 ?_
          refine lv_topi (fun x_18 ex_18 => ?_)
          obtain rfl : x_18 = iZ (gz fa_10 ((((a * 6) + b) * 401) + w)) := ex_18.trans (gz_eq ⟨by omega, by omega⟩)
          have h_19 := rgah_13 ((((a * 6) + b) * 401) + w) (by omega) (by omega)
          exact EXi hx hb hr hlocks (fun h => absurd (show false = true from h) (by decide)) hS ((gz fa_10 ((((a * 6) + b) * 401) + w)), (madeR k ha_8 hl_9 fa_10 fl_11 op_12)) rfl rfl ⟨⟨⟨by omega, by omega⟩, ((rxh_13 a b ha0 hb0 (by omega) hor_7 w (by omega) (by omega)).1.resolve_left c_17), mor_7⟩, (RT.mk rgah_13 rglh_13 rxh_13)⟩ (hP.sub [3, 0, 1, 2, 4, 5] rfl) (hD.sub [3, 0, 1, 2, 4, 5] rfl rfl) dX3_arrival_134
        ·
          have c_17 := (zeq (x := iZ (gz fa_10 ((((a * 6) + b) * 401) + w))) (y := iZ (-2)) rfl rfl (gz_rg fa_10 ((((a * 6) + b) * 401) + w)) wn_m2).mp c_17
          refine lv_aload_n hx hb dX3_arrival_42 rfl (lv_at hl 1 rfl) ?_
          refine va_get (D := D) (ci := 3) (v := .ref hs) (C := RX3) (T := TX3) (N := 4) hx hb hts iX3 hown hK hP 3 rfl rfl 0 (bl rfl) (hts _ qf_X3_11) (fun _ h => h) rfl dX3_arrival_43 ?_
          refine lv_iload_n hx hb dX3_arrival_46 rfl (lv_at hl 2 rfl) ?_
          refine lv_iload_n hx hb dX3_arrival_47 rfl (lv_at hl 3 rfl) ?_
          refine CRV (As := [.int (iZ a), .int (iZ w)]) (rest := []) hx hb hml hown hts hKK (hP.sub (ws' := [(hs, .inr (5, fs)), (hf, .inl (k 1, 36, .inl f))]) [0, 1] rfl) (k_heading l D k hs hf fs f1 f n hn hx0 a w ⟨by omega, by omega⟩ ⟨by omega, by omega⟩) ci_X5_heading qm_X3_30 ⟨Nat.le_of_ble_eq_true rfl, Nat.le_of_ble_eq_true rfl⟩ ⟨cz_le _ _, sz_le _ _⟩ 0 rfl rfl rfl hl.1 rfl (Nat.le_of_ble_eq_true rfl) dX3_arrival_48 ?_
          have hh_h_20 := hd_rg f a w
          refine lv_istore (lv' := [(5, .int (iZ (hd f a w))), (4, .int (iZ ((((a * 6) + b) * 401) + w))), (0, .ref h), (1, .int (iZ a)), (2, .int (iZ w)), (3, .int (iZ b))]) hx hb dX3_arrival_51 hl (bl rfl) rfl (fun ls hl => ?_)
          refine lv_iload_n hx hb dX3_arrival_53 rfl (lv_at hl 4 rfl) ?_
          refine lv_iconst (v := iZ 1) hx hb dX3_arrival_54 rfl ?_
          refine lv_iadd hx hb dX3_arrival_55 ?_
          refine lv_topi (fun x_21 ex_21 => ?_)
          obtain rfl : x_21 = iZ (w + 1) := ex_21.trans (iZ_add w 1)
          refine lv_istore (lv' := [(6, .int (iZ (w + 1))), (5, .int (iZ (hd f a w))), (4, .int (iZ ((((a * 6) + b) * 401) + w))), (0, .ref h), (1, .int (iZ a)), (2, .int (iZ w)), (3, .int (iZ b))]) hx hb dX3_arrival_56 hl (bl rfl) rfl (fun ls hl => ?_)
          have HL1 : ∀ (fu : Nat) (i : Int) (H : Heap) (locs : List Loc) (ls : Array Slot), (w + 21 - i) < (fu : Int) → w + 1 ≤ i → i ≤ w + 20 → (∀ s : Int, w + 1 ≤ s → s < i → ¬ lt f a w b s ≤ s - w) → va_P D vwCl [(hs, .inr (5, fs)), (hf, .inl (k 1, 36, .inl f)), (hg, .inl (k 1, 32, .inl g)), (h, .inr (3, [.ref hs, .long op_12, .ref ha_8, .ref hl_9])), (ha_8, .inl (k 1, 14436, .inl fa_10)), (hl_9, .inl (k 1, 14436, .inl fl_11))] H → va_D A [(hs, .inr (5, fs)), (hf, .inl (k 1, 36, .inl f)), (hg, .inl (k 1, 32, .inl g)), (h, .inr (3, [.ref hs, .long op_12, .ref ha_8, .ref hl_9])), (ha_8, .inl (k 1, 14436, .inl fa_10)), (hl_9, .inl (k 1, 14436, .inl fl_11))] → va_S A s.heap H locs → lv_has ls 7 [(6, .int (iZ i)), (5, .int (iZ (hd f a w))), (4, .int (iZ ((((a * 6) + b) * 401) + w))), (0, .ref h), (1, .int (iZ a)), (2, .int (iZ w)), (3, .int (iZ b))] → W p l e (rj 1 (rcN r0.b) (rsN r0.b)) s m [.ref h, .int (iZ a), .int (iZ w), .int (iZ b)].toArray below meth c H locs (cz r0.b false) (sz r0.b false) (MQ below (QX (σ := (Int × Ry)) r0.b (fun u => u.2) (fun u => some (.int (iZ u.1))) (fun u => ((-1 ≤ u.1 ∧ u.1 ≤ 420) ∧ u.1 = arN f g ni a w b ∧ (∀ d : Int, 0 ≤ d → d < 36 → OB r0.op d → OB u.2.op d)) ∧ RT k (RX f g n ni) u.2) (fun u => [(h, .inr (3, [.ref hs, .long u.2.op, u.2.vA, u.2.vL])), (hs, .inr (5, fs)), (hf, .inl (k 1, 36, .inl f)), (hg, .inl (k 1, 32, .inl g))]) D A) [.ref h, .int (iZ a), .int (iZ w), .int (iZ b)].toArray s (rcN r0.b) (rsN r0.b) A) (F0 m 58 ls []) := by
            intro fu
            induction fu with
            | zero => intro i H locs ls hμ1 hi1 hi2 hi3 hP hD hS hl; exact absurd hμ1 (by omega)
            | succ fu ih1 =>
              intro i H locs ls hμ1 hi1 hi2 hi3 hP hD hS hl
              refine lv_iload hx hb dX3_arrival_58 (lv_at hl 0 rfl) ?_
              refine lv_iload_n hx hb dX3_arrival_60 rfl (lv_at hl 5 rfl) ?_
              refine lv_bipush (v := iZ 20) hx hb dX3_arrival_61 bip_20 ?_
              refine lv_iadd hx hb dX3_arrival_63 ?_
              refine lv_topi (fun x_22 ex_22 => ?_)
              obtain rfl : x_22 = iZ (w + 20) := ex_22.trans (iZ_add w 20)
              refine lv_icmp_ge (tgt := 101) hx hb dX3_arrival_64 rfl (fun c_23 => ?_) (fun c_23 => ?_)
              ·
                have c_23 := (zle (x := iZ (w + 20)) (y := iZ i) rfl rfl ⟨by omega, by omega⟩ ⟨by omega, by omega⟩).mp c_23
                have hex9 : i = w + 20 ∨ lt f a w b i ≤ i - w := by first | exact Or.inl (by omega) | exact Or.inr (by unfold lt; omega)
                have hfd := arN_f (g := g) (ni := ni) hx0 ha0 hb0 (show ¬ a = b from (by omega)) (show 0 ≤ w ∧ w ≤ 400 from ⟨by omega, by omega⟩) ⟨hi1, hi2⟩ hex9 hi3
                refine lv_aload_n hx hb dX3_arrival_101 rfl (lv_at hl 3 rfl) ?_
                refine va_get (D := D) (ci := 3) (v := .ref ha_8) (C := RX3) (T := TX3) (N := 4) hx hb hts iX3 hown hK hP 3 rfl rfl 2 (bl rfl) (hts _ qf_X3_19) (fun _ h => h) rfl dX3_arrival_102 ?_
                refine lv_iload hx hb dX3_arrival_105 (lv_at hl 2 rfl) ?_
                refine lv_aload_n hx hb dX3_arrival_107 rfl (lv_at hl 3 rfl) ?_
                refine va_get (D := D) (ci := 3) (v := .ref hs) (C := RX3) (T := TX3) (N := 4) hx hb hts iX3 hown hK hP 3 rfl rfl 0 (bl rfl) (hts _ qf_X3_11) (fun _ h => h) rfl dX3_arrival_108 ?_
                refine lv_iload_n hx hb dX3_arrival_111 rfl (lv_at hl 4 rfl) ?_
                refine lv_iload_n hx hb dX3_arrival_112 rfl (lv_at hl 6 rfl) ?_
                refine lv_iload_n hx hb dX3_arrival_113 rfl (lv_at hl 5 rfl) ?_
                refine CRV (As := [.int (iZ a), .int (iZ b), .int (iZ w)]) (rest := [.int (iZ ((((a * 6) + b) * 401) + w)), .ref ha_8]) hx hb hml hown hts hKK (hP.sub (ws' := [(hs, .inr (5, fs)), (hg, .inl (k 1, 32, .inl g))]) [0, 2] rfl) (k_ice l D k hs hg fs f2 g ni f4 hni a b w ⟨by omega, by omega⟩ ⟨by omega, by omega⟩ ⟨by omega, by omega⟩) ci_X5_hasIce qm_X3_39 ⟨Nat.le_of_ble_eq_true rfl, Nat.le_of_ble_eq_true rfl⟩ ⟨cz_le _ _, sz_le _ _⟩ 0 rfl rfl rfl hl.1 rfl (Nat.le_of_ble_eq_true rfl) dX3_arrival_114 ?_
                have hz_h_24 := bz_01 (isIc g ni a b w)
                refine lv_if_eq (tgt := 124) hx hb dX3_arrival_117 rfl (fun c_25 => ?_) (fun c_25 => ?_)
                ·
                  have c_25 := (zeq (x := iZ (bz (isIc g ni a b w))) (y := iZ 0) rfl rfl ⟨by omega, by omega⟩ wn_0).mp c_25
                  refine lv_iload hx hb dX3_arrival_124 (lv_at hl 0 rfl) ?_
                  refine va_iast hx hb hK hP hD hS 4 1 rfl rfl (zin (e := ((((a * 6) + b) * 401) + w)) (n := 14436) ⟨by omega, by omega⟩ (bl rfl)) dX3_arrival_126 (fun H locs hP hD hS => ?_)
                  obtain ⟨f_26, hf_26⟩ : ∃ gg9, gg9 = upd fa_10 (iZ ((((a * 6) + b) * 401) + w)).toNatClampNeg (iZ i) := ⟨_, rfl⟩
                  rw [← hf_26] at hP hD
                  have rgf_26 := rg_upd rgah_13 hf_26 (by omega) ⟨by omega, by omega⟩ ⟨by omega, by omega⟩
                  have hv_27 : i = arN f g ni a w b := (hfd.2 (by omega)).symm
                  refine lv_aload_n hx hb dX3_arrival_127 rfl (lv_at hl 3 rfl) ?_
                  refine va_get (D := D) (ci := 3) (v := .ref ha_8) (C := RX3) (T := TX3) (N := 4) hx hb hts iX3 hown hK hP 3 rfl rfl 2 (bl rfl) (hts _ qf_X3_19) (fun _ h => h) rfl dX3_arrival_128 ?_
                  refine lv_iload hx hb dX3_arrival_131 (lv_at hl 2 rfl) ?_
                  refine va_iald hx hb hK hP 4 1 rfl rfl (zin (e := ((((a * 6) + b) * 401) + w)) (n := 14436) ⟨by omega, by omega⟩ (bl rfl)) dX3_arrival_133 ?_
                  refine lv_topi (fun x_28 ex_28 => ?_)
                  obtain rfl : x_28 = iZ (gz f_26 ((((a * 6) + b) * 401) + w)) := ex_28.trans (gz_eq ⟨by omega, by omega⟩)
                  have h_29 := rgf_26 ((((a * 6) + b) * 401) + w) (by omega) (by omega)
                  have uh_29 := gz_up hf_26 ⟨by omega, by omega⟩ ⟨by omega, by omega⟩ (j := ((((a * 6) + b) * 401) + w)) (by omega)
                  rw [if_pos rfl] at uh_29
                  exact EXi hx hb hr hlocks (fun h => absurd (show false = true from h) (by decide)) hS ((gz f_26 ((((a * 6) + b) * 401) + w)), (madeR k ha_8 hl_9 f_26 fl_11 op_12)) rfl rfl ⟨⟨⟨by omega, by omega⟩, (by have h9 := hv_27; omega), mor_7⟩, (RT.mk rgf_26 rglh_13 (RX.arr rxh_13 hf_26 rfl ha0 hb0 ⟨by omega, by omega⟩ hn hv_27 ⟨by omega, by omega⟩))⟩ (hP.sub [3, 0, 1, 2, 4, 5] rfl) (hD.sub [3, 0, 1, 2, 4, 5] rfl rfl) dX3_arrival_134
                ·
                  have c_25 := mt (zeq (x := iZ (bz (isIc g ni a b w))) (y := iZ 0) rfl rfl ⟨by omega, by omega⟩ wn_0).mpr c_25
                  refine lv_iconst (v := iZ (-1)) hx hb dX3_arrival_120 rfl ?_
                  refine lv_goto (tgt := 126) hx hb dX3_arrival_121 rfl ?_
                  refine va_iast hx hb hK hP hD hS 4 1 rfl rfl (zin (e := ((((a * 6) + b) * 401) + w)) (n := 14436) ⟨by omega, by omega⟩ (bl rfl)) dX3_arrival_126 (fun H locs hP hD hS => ?_)
                  obtain ⟨f_30, hf_30⟩ : ∃ gg9, gg9 = upd fa_10 (iZ ((((a * 6) + b) * 401) + w)).toNatClampNeg (iZ (-1)) := ⟨_, rfl⟩
                  rw [← hf_30] at hP hD
                  have rgf_30 := rg_upd rgah_13 hf_30 (by omega) ⟨by omega, by omega⟩ ⟨by omega, by omega⟩
                  have hv_31 : (-1) = arN f g ni a w b := (hfd.1 (by omega)).symm
                  refine lv_aload_n hx hb dX3_arrival_127 rfl (lv_at hl 3 rfl) ?_
                  refine va_get (D := D) (ci := 3) (v := .ref ha_8) (C := RX3) (T := TX3) (N := 4) hx hb hts iX3 hown hK hP 3 rfl rfl 2 (bl rfl) (hts _ qf_X3_19) (fun _ h => h) rfl dX3_arrival_128 ?_
                  refine lv_iload hx hb dX3_arrival_131 (lv_at hl 2 rfl) ?_
                  refine va_iald hx hb hK hP 4 1 rfl rfl (zin (e := ((((a * 6) + b) * 401) + w)) (n := 14436) ⟨by omega, by omega⟩ (bl rfl)) dX3_arrival_133 ?_
                  refine lv_topi (fun x_32 ex_32 => ?_)
                  obtain rfl : x_32 = iZ (gz f_30 ((((a * 6) + b) * 401) + w)) := ex_32.trans (gz_eq ⟨by omega, by omega⟩)
                  have h_33 := rgf_30 ((((a * 6) + b) * 401) + w) (by omega) (by omega)
                  have uh_33 := gz_up hf_30 ⟨by omega, by omega⟩ ⟨by omega, by omega⟩ (j := ((((a * 6) + b) * 401) + w)) (by omega)
                  rw [if_pos rfl] at uh_33
                  exact EXi hx hb hr hlocks (fun h => absurd (show false = true from h) (by decide)) hS ((gz f_30 ((((a * 6) + b) * 401) + w)), (madeR k ha_8 hl_9 f_30 fl_11 op_12)) rfl rfl ⟨⟨⟨by omega, by omega⟩, (by have h9 := hv_31; omega), mor_7⟩, (RT.mk rgf_30 rglh_13 (RX.arr rxh_13 hf_30 rfl ha0 hb0 ⟨by omega, by omega⟩ hn hv_31 ⟨by omega, by omega⟩))⟩ (hP.sub [3, 0, 1, 2, 4, 5] rfl) (hD.sub [3, 0, 1, 2, 4, 5] rfl rfl) dX3_arrival_134
              ·
                have c_23 := mt (zle (x := iZ (w + 20)) (y := iZ i) rfl rfl ⟨by omega, by omega⟩ ⟨by omega, by omega⟩).mpr c_23
                refine lv_aload_n hx hb dX3_arrival_67 rfl (lv_at hl 3 rfl) ?_
                refine va_get (D := D) (ci := 3) (v := .ref hs) (C := RX3) (T := TX3) (N := 4) hx hb hts iX3 hown hK hP 3 rfl rfl 0 (bl rfl) (hts _ qf_X3_11) (fun _ h => h) rfl dX3_arrival_68 ?_
                refine lv_iload_n hx hb dX3_arrival_71 rfl (lv_at hl 4 rfl) ?_
                refine lv_iload hx hb dX3_arrival_72 (lv_at hl 1 rfl) ?_
                refine lv_iload_n hx hb dX3_arrival_74 rfl (lv_at hl 6 rfl) ?_
                refine lv_aload_n hx hb dX3_arrival_75 rfl (lv_at hl 3 rfl) ?_
                refine va_get (D := D) (ci := 3) (v := .ref hs) (C := RX3) (T := TX3) (N := 4) hx hb hts iX3 hown hK hP 3 rfl rfl 0 (bl rfl) (hts _ qf_X3_11) (fun _ h => h) rfl dX3_arrival_76 ?_
                refine lv_iload_n hx hb dX3_arrival_79 rfl (lv_at hl 6 rfl) ?_
                refine lv_iload hx hb dX3_arrival_80 (lv_at hl 0 rfl) ?_
                refine CRV (As := [.int (iZ b), .int (iZ i)]) (rest := [.int (iZ b), .int (iZ (hd f a w)), .int (iZ a), .ref hs]) hx hb hml hown hts hKK (hP.sub (ws' := [(hs, .inr (5, fs)), (hf, .inl (k 1, 36, .inl f))]) [0, 1] rfl) (k_heading l D k hs hf fs f1 f n hn hx0 b i ⟨by omega, by omega⟩ ⟨by omega, by omega⟩) ci_X5_heading qm_X3_30 ⟨Nat.le_of_ble_eq_true rfl, Nat.le_of_ble_eq_true rfl⟩ ⟨cz_le _ _, sz_le _ _⟩ 0 rfl rfl rfl hl.1 rfl (Nat.le_of_ble_eq_true rfl) dX3_arrival_82 ?_
                have hh_h_34 := hd_rg f b i
                refine CRV (As := [.int (iZ a), .int (iZ (hd f a w)), .int (iZ b), .int (iZ (hd f b i))]) (rest := []) hx hb hml hown hts hKK (hP.sub (ws' := [(hs, .inr (5, fs)), (hf, .inl (k 1, 36, .inl f))]) [0, 1] rfl) (k_apart l D k hs hf fs f1 f n hn hx0 a (hd f a w) b (hd f b i) ⟨by omega, by omega⟩ ⟨by omega, by omega⟩ ⟨by omega, by omega⟩ ⟨by omega, by omega⟩) ci_X5_apart qm_X3_35 ⟨Nat.le_of_ble_eq_true rfl, Nat.le_of_ble_eq_true rfl⟩ ⟨cz_le _ _, sz_le _ _⟩ 0 rfl rfl rfl hl.1 rfl (Nat.le_of_ble_eq_true rfl) dX3_arrival_85 ?_
                have ha_h_35 := ap_rg (h := (hd f a w)) (g := (hd f b i)) hx0 (a := a) (b := b) ⟨by omega, by omega⟩ ⟨by omega, by omega⟩ ⟨by omega, by omega⟩ ⟨by omega, by omega⟩
                refine lv_iload hx hb dX3_arrival_88 (lv_at hl 0 rfl) ?_
                refine lv_iload_n hx hb dX3_arrival_90 rfl (lv_at hl 5 rfl) ?_
                refine lv_isub hx hb dX3_arrival_91 ?_
                refine lv_topi (fun x_36 ex_36 => ?_)
                obtain rfl : x_36 = iZ (i - w) := ex_36.trans (iZ_sub i w)
                refine lv_icmp_le (tgt := 101) hx hb dX3_arrival_92 rfl (fun c_37 => ?_) (fun c_37 => ?_)
                ·
                  have c_37 := (zle (x := iZ (ap f a (hd f a w) b (hd f b i))) (y := iZ (i - w)) rfl rfl ⟨by omega, by omega⟩ ⟨by omega, by omega⟩).mp c_37
                  have hex9 : i = w + 20 ∨ lt f a w b i ≤ i - w := by first | exact Or.inl (by omega) | exact Or.inr (by unfold lt; omega)
                  have hfd := arN_f (g := g) (ni := ni) hx0 ha0 hb0 (show ¬ a = b from (by omega)) (show 0 ≤ w ∧ w ≤ 400 from ⟨by omega, by omega⟩) ⟨hi1, hi2⟩ hex9 hi3
                  refine lv_aload_n hx hb dX3_arrival_101 rfl (lv_at hl 3 rfl) ?_
                  refine va_get (D := D) (ci := 3) (v := .ref ha_8) (C := RX3) (T := TX3) (N := 4) hx hb hts iX3 hown hK hP 3 rfl rfl 2 (bl rfl) (hts _ qf_X3_19) (fun _ h => h) rfl dX3_arrival_102 ?_
                  refine lv_iload hx hb dX3_arrival_105 (lv_at hl 2 rfl) ?_
                  refine lv_aload_n hx hb dX3_arrival_107 rfl (lv_at hl 3 rfl) ?_
                  refine va_get (D := D) (ci := 3) (v := .ref hs) (C := RX3) (T := TX3) (N := 4) hx hb hts iX3 hown hK hP 3 rfl rfl 0 (bl rfl) (hts _ qf_X3_11) (fun _ h => h) rfl dX3_arrival_108 ?_
                  refine lv_iload_n hx hb dX3_arrival_111 rfl (lv_at hl 4 rfl) ?_
                  refine lv_iload_n hx hb dX3_arrival_112 rfl (lv_at hl 6 rfl) ?_
                  refine lv_iload_n hx hb dX3_arrival_113 rfl (lv_at hl 5 rfl) ?_
                  refine CRV (As := [.int (iZ a), .int (iZ b), .int (iZ w)]) (rest := [.int (iZ ((((a * 6) + b) * 401) + w)), .ref ha_8]) hx hb hml hown hts hKK (hP.sub (ws' := [(hs, .inr (5, fs)), (hg, .inl (k 1, 32, .inl g))]) [0, 2] rfl) (k_ice l D k hs hg fs f2 g ni f4 hni a b w ⟨by omega, by omega⟩ ⟨by omega, by omega⟩ ⟨by omega, by omega⟩) ci_X5_hasIce qm_X3_39 ⟨Nat.le_of_ble_eq_true rfl, Nat.le_of_ble_eq_true rfl⟩ ⟨cz_le _ _, sz_le _ _⟩ 0 rfl rfl rfl hl.1 rfl (Nat.le_of_ble_eq_true rfl) dX3_arrival_114 ?_
                  have hz_h_38 := bz_01 (isIc g ni a b w)
                  refine lv_if_eq (tgt := 124) hx hb dX3_arrival_117 rfl (fun c_39 => ?_) (fun c_39 => ?_)
                  ·
                    have c_39 := (zeq (x := iZ (bz (isIc g ni a b w))) (y := iZ 0) rfl rfl ⟨by omega, by omega⟩ wn_0).mp c_39
                    refine lv_iload hx hb dX3_arrival_124 (lv_at hl 0 rfl) ?_
                    refine va_iast hx hb hK hP hD hS 4 1 rfl rfl (zin (e := ((((a * 6) + b) * 401) + w)) (n := 14436) ⟨by omega, by omega⟩ (bl rfl)) dX3_arrival_126 (fun H locs hP hD hS => ?_)
                    obtain ⟨f_40, hf_40⟩ : ∃ gg9, gg9 = upd fa_10 (iZ ((((a * 6) + b) * 401) + w)).toNatClampNeg (iZ i) := ⟨_, rfl⟩
                    rw [← hf_40] at hP hD
                    have rgf_40 := rg_upd rgah_13 hf_40 (by omega) ⟨by omega, by omega⟩ ⟨by omega, by omega⟩
                    have hv_41 : i = arN f g ni a w b := (hfd.2 (by omega)).symm
                    refine lv_aload_n hx hb dX3_arrival_127 rfl (lv_at hl 3 rfl) ?_
                    refine va_get (D := D) (ci := 3) (v := .ref ha_8) (C := RX3) (T := TX3) (N := 4) hx hb hts iX3 hown hK hP 3 rfl rfl 2 (bl rfl) (hts _ qf_X3_19) (fun _ h => h) rfl dX3_arrival_128 ?_
                    refine lv_iload hx hb dX3_arrival_131 (lv_at hl 2 rfl) ?_
                    refine va_iald hx hb hK hP 4 1 rfl rfl (zin (e := ((((a * 6) + b) * 401) + w)) (n := 14436) ⟨by omega, by omega⟩ (bl rfl)) dX3_arrival_133 ?_
                    refine lv_topi (fun x_42 ex_42 => ?_)
                    obtain rfl : x_42 = iZ (gz f_40 ((((a * 6) + b) * 401) + w)) := ex_42.trans (gz_eq ⟨by omega, by omega⟩)
                    have h_43 := rgf_40 ((((a * 6) + b) * 401) + w) (by omega) (by omega)
                    have uh_43 := gz_up hf_40 ⟨by omega, by omega⟩ ⟨by omega, by omega⟩ (j := ((((a * 6) + b) * 401) + w)) (by omega)
                    rw [if_pos rfl] at uh_43
                    exact EXi hx hb hr hlocks (fun h => absurd (show false = true from h) (by decide)) hS ((gz f_40 ((((a * 6) + b) * 401) + w)), (madeR k ha_8 hl_9 f_40 fl_11 op_12)) rfl rfl ⟨⟨⟨by omega, by omega⟩, (by have h9 := hv_41; omega), mor_7⟩, (RT.mk rgf_40 rglh_13 (RX.arr rxh_13 hf_40 rfl ha0 hb0 ⟨by omega, by omega⟩ hn hv_41 ⟨by omega, by omega⟩))⟩ (hP.sub [3, 0, 1, 2, 4, 5] rfl) (hD.sub [3, 0, 1, 2, 4, 5] rfl rfl) dX3_arrival_134
                  ·
                    have c_39 := mt (zeq (x := iZ (bz (isIc g ni a b w))) (y := iZ 0) rfl rfl ⟨by omega, by omega⟩ wn_0).mpr c_39
                    refine lv_iconst (v := iZ (-1)) hx hb dX3_arrival_120 rfl ?_
                    refine lv_goto (tgt := 126) hx hb dX3_arrival_121 rfl ?_
                    refine va_iast hx hb hK hP hD hS 4 1 rfl rfl (zin (e := ((((a * 6) + b) * 401) + w)) (n := 14436) ⟨by omega, by omega⟩ (bl rfl)) dX3_arrival_126 (fun H locs hP hD hS => ?_)
                    obtain ⟨f_44, hf_44⟩ : ∃ gg9, gg9 = upd fa_10 (iZ ((((a * 6) + b) * 401) + w)).toNatClampNeg (iZ (-1)) := ⟨_, rfl⟩
                    rw [← hf_44] at hP hD
                    have rgf_44 := rg_upd rgah_13 hf_44 (by omega) ⟨by omega, by omega⟩ ⟨by omega, by omega⟩
                    have hv_45 : (-1) = arN f g ni a w b := (hfd.1 (by omega)).symm
                    refine lv_aload_n hx hb dX3_arrival_127 rfl (lv_at hl 3 rfl) ?_
                    refine va_get (D := D) (ci := 3) (v := .ref ha_8) (C := RX3) (T := TX3) (N := 4) hx hb hts iX3 hown hK hP 3 rfl rfl 2 (bl rfl) (hts _ qf_X3_19) (fun _ h => h) rfl dX3_arrival_128 ?_
                    refine lv_iload hx hb dX3_arrival_131 (lv_at hl 2 rfl) ?_
                    refine va_iald hx hb hK hP 4 1 rfl rfl (zin (e := ((((a * 6) + b) * 401) + w)) (n := 14436) ⟨by omega, by omega⟩ (bl rfl)) dX3_arrival_133 ?_
                    refine lv_topi (fun x_46 ex_46 => ?_)
                    obtain rfl : x_46 = iZ (gz f_44 ((((a * 6) + b) * 401) + w)) := ex_46.trans (gz_eq ⟨by omega, by omega⟩)
                    have h_47 := rgf_44 ((((a * 6) + b) * 401) + w) (by omega) (by omega)
                    have uh_47 := gz_up hf_44 ⟨by omega, by omega⟩ ⟨by omega, by omega⟩ (j := ((((a * 6) + b) * 401) + w)) (by omega)
                    rw [if_pos rfl] at uh_47
                    exact EXi hx hb hr hlocks (fun h => absurd (show false = true from h) (by decide)) hS ((gz f_44 ((((a * 6) + b) * 401) + w)), (madeR k ha_8 hl_9 f_44 fl_11 op_12)) rfl rfl ⟨⟨⟨by omega, by omega⟩, (by have h9 := hv_45; omega), mor_7⟩, (RT.mk rgf_44 rglh_13 (RX.arr rxh_13 hf_44 rfl ha0 hb0 ⟨by omega, by omega⟩ hn hv_45 ⟨by omega, by omega⟩))⟩ (hP.sub [3, 0, 1, 2, 4, 5] rfl) (hD.sub [3, 0, 1, 2, 4, 5] rfl rfl) dX3_arrival_134
                ·
                  have c_37 := mt (zle (x := iZ (ap f a (hd f a w) b (hd f b i))) (y := iZ (i - w)) rfl rfl ⟨by omega, by omega⟩ ⟨by omega, by omega⟩).mpr c_37
                  refine lv_iinc (v := iZ (i + 1)) (lv' := [(6, .int (iZ (i + 1))), (5, .int (iZ (hd f a w))), (4, .int (iZ ((((a * 6) + b) * 401) + w))), (0, .ref h), (1, .int (iZ a)), (2, .int (iZ w)), (3, .int (iZ b))]) hx hb dX3_arrival_95 hl (k := 0) rfl (iZ_add i 1) (by decide) rfl (fun ls hl => ?_)
                  refine lv_goto (tgt := 58) hx hb dX3_arrival_98 rfl ?_
                  exact ih1  (i + 1) _ _ _ (by omega) (by omega) (by omega) (by intro s9 h1 h2; rcases Int.lt_or_eq_of_le (show s9 ≤ i by omega) with h3 | h3; exact hi3 s9 h1 h3; rw [h3]; have := c_37; unfold lt; omega) (hP.sub [0, 1, 2, 3, 4, 5] rfl) (hD.sub [0, 1, 2, 3, 4, 5] rfl rfl) hS (lv_sub hl [0, 1, 2, 3, 4, 5, 6] rfl)
          exact HL1 21 (w + 1) _ _ _ (by omega) (by omega) (by omega) (fun s9 h1 h2 => absurd h1 (by omega)) (hP.sub [0, 1, 2, 3, 4, 5] rfl) (hD.sub [0, 1, 2, 3, 4, 5] rfl rfl) hS (lv_sub hl [0, 1, 2, 3, 4, 5, 6] rfl)
      ·
        have c_3 := (zeq (x := iZ a) (y := iZ b) rfl rfl ⟨by omega, by omega⟩ ⟨by omega, by omega⟩).mp c_3
        refine lv_iload_n hx hb dX3_arrival_18 rfl (lv_at hl 2 rfl) ?_
        exact EXi hx hb hr hlocks (fun h => h) hS (w, r0) rfl rfl ⟨⟨⟨by omega, by omega⟩, (by obtain rfl : a = b := (by omega); exact (arN_s ⟨by omega, by omega⟩).symm), (fun d h1 h2 h3 => h3)⟩, hRT⟩ (va_P.subT (pre := [(h, .inr (3, [.ref hs, .long r0.op, r0.vA, r0.vL])), (hs, .inr (5, fs)), (hf, .inl (k 1, 36, .inl f)), (hg, .inl (k 1, 32, .inl g))]) (pre' := [(h, .inr (3, [.ref hs, .long r0.op, r0.vA, r0.vL])), (hs, .inr (5, fs)), (hf, .inl (k 1, 36, .inl f)), (hg, .inl (k 1, 32, .inl g))]) (tl := r0.tl) hP [0, 1, 2, 3] rfl) (va_D.subT (pre := [(h, .inr (3, [.ref hs, .long r0.op, r0.vA, r0.vL])), (hs, .inr (5, fs)), (hf, .inl (k 1, 36, .inl f)), (hg, .inl (k 1, 32, .inl g))]) (pre' := [(h, .inr (3, [.ref hs, .long r0.op, r0.vA, r0.vL])), (hs, .inr (5, fs)), (hf, .inl (k 1, 36, .inl f)), (hg, .inl (k 1, 32, .inl g))]) (tl := r0.tl) hD [0, 1, 2, 3] rfl rfl) dX3_arrival_19
    ·
      have c_2 := mt (zle (x := iZ w) (y := iZ 400) rfl rfl ⟨by omega, by omega⟩ wn_400).mpr c_2
      refine lv_iconst (v := iZ (-1)) hx hb dX3_arrival_11 rfl ?_
      exact EXi hx hb hr hlocks (fun h => h) hS ((-1), r0) rfl rfl ⟨⟨⟨by omega, by omega⟩, (arN_o (by omega)).symm, (fun d h1 h2 h3 => h3)⟩, hRT⟩ (va_P.subT (pre := [(h, .inr (3, [.ref hs, .long r0.op, r0.vA, r0.vL])), (hs, .inr (5, fs)), (hf, .inl (k 1, 36, .inl f)), (hg, .inl (k 1, 32, .inl g))]) (pre' := [(h, .inr (3, [.ref hs, .long r0.op, r0.vA, r0.vL])), (hs, .inr (5, fs)), (hf, .inl (k 1, 36, .inl f)), (hg, .inl (k 1, 32, .inl g))]) (tl := r0.tl) hP [0, 1, 2, 3] rfl) (va_D.subT (pre := [(h, .inr (3, [.ref hs, .long r0.op, r0.vA, r0.vL])), (hs, .inr (5, fs)), (hf, .inl (k 1, 36, .inl f)), (hg, .inl (k 1, 32, .inl g))]) (pre' := [(h, .inr (3, [.ref hs, .long r0.op, r0.vA, r0.vL])), (hs, .inr (5, fs)), (hf, .inl (k 1, 36, .inl f)), (hg, .inl (k 1, 32, .inl g))]) (tl := r0.tl) hD [0, 1, 2, 3] rfl rfl) dX3_arrival_12
end
