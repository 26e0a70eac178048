def R_law : String := "SlowWorldsLaw"
def lw_P (b : Addr) (xs : List Int32) (args : Array Value) (s : State) : Prop := args = #[.ref b] ∧ s.IntsAt b xs ∧ xs.length ≤ 3072 ∧ (Jvm.Cond.and given_1 narrow_1).before args s = true
def lw_Q (_ : Array Value) (s : State) (o : Outcome) (t : State) : Prop := o = .returned (some (.int 1)) ∧ Framed s o t [] 600000 7302250
def lw_Z (below : List Frame) (a : Array Value) (s : State) : State → Prop := fun t => ∃ o, t.status = .running ∧ Ended t below o ∧ lw_Q a s o t
/-- the law's own end, with 1 on the stack, nothing written that was there before, its room as the claim has it -/
theorem lw_ret {p : Program} {l : Launch} {e : Env} {s : State} {m : MethodId} {below : List Frame} {meth : Method} {c : Code} {b : Nat} (hx : p.tables.exec = Jvm.exec) (hb : c.code = code) (hr : meth.sig.returnType = ret) (hlocks : meth.locks = false) {pc : Nat} {H : Heap} {ls : Array Slot} (hdg : decode code pc = .ok (.ireturn, 1)) : W p l e room_1 s m #[Value.ref b] below meth c H [] 600000 7302250 (lw_Z below #[Value.ref b] s) (F0 m pc ls [.int 1]) := by
  intro T hT X
  obtain ⟨fs, hret, hrun, hended, hW, hframe⟩ := X.leave (v := some (.int 1)) (hlocks := hlocks) (fun h => by rw [hr] at h; cases h)
  have hmeth' : T.vm.method? m = some meth := X.method'
  refine ⟨T.setFrames fs, ?_, .returned (some (.int 1)), hrun, hended, rfl, ⟨_, rfl⟩, hW, hframe⟩
  jvm_step X.here [X.here.top, hx, hb, hdg, hmeth', hr, ret, narrow_b1]
  (try refine ⟨rfl, ?_⟩); (try refine ⟨rfl, ?_⟩)
  first | (intro acts; rw [hret _ acts rfl rfl rfl]) | rw [hret _ _ rfl rfl rfl]
  exact Steps.refl _
/-- what holds at the law's entry: the machine, the code, the tables' words (any of lw_tbl by 'hts w (by decide +kernel)'), the script of L ints xs at the cell b, what the Statement gives of the start (any of its parts by flat_of_before) -/
def lw_At (p : Program) (s : State) (m : MethodId) (meth : Method) (c : Code) (b L : Nat) (xs : Nat → Int32) : Prop :=
  p.tables.exec = Jvm.exec ∧ c.code = code ∧ meth.sig.returnType = ret ∧ c.maxLocals = 4 ∧ s.vm.findClass R_law = some m.cls ∧ (∀ w ∈ lw_tbl, w.before #[Value.ref b] s = true) ∧ va_X b L xs s s.heap ∧ b < s.heap.size ∧ meth.locks = false ∧ (Jvm.Cond.and given_1 narrow_1).before #[Value.ref b] s = true
theorem lroom (b : Bool) : 123 + cz true b ≤ room_1.cells ∧ 16705 + sz true b ≤ room_1.slots := by
  cases b
  · exact ⟨Nat.le_of_ble_eq_true rfl, Nat.le_of_ble_eq_true rfl⟩
  · exact ⟨Nat.le_of_ble_eq_true rfl, Nat.le_of_ble_eq_true rfl⟩
/-- what stays as it is while the law runs -/
def LFX (p : Program) (s : State) (m : MethodId) (meth : Method) (c : Code) (b L : Nat) (xs : Nat → Int32) (A : Nat → Prop) (D : va_G) (k : Nat → ClassId) (sa sv : Nat) : Prop :=
  p.tables.exec = Jvm.exec ∧ c.code = code ∧ meth.sig.returnType = ret ∧ c.maxLocals = 4 ∧ s.vm.findClass R_law = some m.cls ∧ (∀ w ∈ gw, w.before #[Value.ref b] s = true) ∧ KK D k s ∧ va_X b L xs s s.heap ∧ b < s.heap.size ∧ ¬ A b ∧ (∀ q : Nat, s.heap.size ≤ q → A q) ∧ (∀ q : Nat, A q → s.heap.size ≤ q) ∧ meth.locks = false ∧ SY sa sv keyF A s s.heap ∧ vk_R RX12 175 keyT sa s ∧ L ≤ 3072
/-- the law at a place: the world stands, i is in its local -/
def LAT (p : Program) (l : Launch) (e : Env) (s : State) (m : MethodId) (below : List Frame) (meth : Method) (c : Code) (b : Nat) (A : Nat → Prop) (D : va_G) (k : Nat → ClassId) (pc : Nat) (i : Int) : Prop :=
  ∀ (a : Nat → Nat) (IA : Nat → Int) (LA : Nat → Int64) (FA : Nat → Nat → Int32) (QA : Nat → Nat → Int64) (VA : Nat → Value) (IB : Nat → Int) (LB : Nat → Int64) (FB : Nat → Nat → Int32) (QB : Nat → Nat → Int64) (VB : Nat → Value) (IC : Nat → Int) (LC : Nat → Int64) (FC : Nat → Nat → Int32) (QC : Nat → Nat → Int64) (VC : Nat → Value) (ID : Nat → Int) (LD : Nat → Int64) (FD : Nat → Nat → Int32) (QD : Nat → Nat → Int64) (VD : Nat → Value) (IR : Nat → Int) (LR : Nat → Int64) (FR : Nat → Nat → Int32) (QR : Nat → Nat → Int64) (VR : Nat → Value) (r : Ry) (H : Heap) (locs : List Loc) (ls : Array Slot), INV IA FA IB FB IC FC ID FD IR FR → RT k r → va_P D vwCl (WLL k a IA LA FA QA VA IB LB FB QB VB IC LC FC QC VC ID LD FD QD VD IR LR FR QR VR r) H → va_D A (WLL k a IA LA FA QA VA IB LB FB QB VB IC LC FC QC VC ID LD FD QD VD IR LR FR QR VR r) → va_S A s.heap H locs → lv_has ls 4 [(3, .int (iZ i)), (2, .ref (a 106)), (1, .ref (a 0)), (0, .ref b)] → W p l e room_1 s m #[Value.ref b] below meth c H locs (123 + cz true r.b) (16705 + sz true r.b) (lw_Z below #[Value.ref b] s) (F0 m pc ls [])
theorem lt4 {t : Int} (h1 : 0 ≤ t) (h2 : t ≤ 3) : t = 0 ∨ t = 1 ∨ t = 2 ∨ t = 3 := by omega
theorem po_eq {f g : Nat → Int32} {S Y : Int → Int} {z1 z2 z3 z4 z5 x y : Int} (h : ∀ t : Int, 0 ≤ t → t ≤ 3 → gz f t = S t ∧ gz g t = Y t) (a : (x = 1 ∧ (((0 ≤ z1 ∧ z1 ≤ 3) ∧ (0 ≤ z3 ∧ z3 ≤ 3) ∧ (0 ≤ z2 ∧ 0 ≤ z4 ∧ 0 ≤ z5)) ∧ (¬ Y z1 = -1 ∧ ¬ Y z3 = -1) ∧ S z1 = S z3 ∧ (z5 ≤ Y z1 - z2 ∧ z5 ≤ Y z3 - z4))) ∨ (x = 0 ∧ ¬ (((0 ≤ z1 ∧ z1 ≤ 3) ∧ (0 ≤ z3 ∧ z3 ≤ 3) ∧ (0 ≤ z2 ∧ 0 ≤ z4 ∧ 0 ≤ z5)) ∧ (¬ Y z1 = -1 ∧ ¬ Y z3 = -1) ∧ S z1 = S z3 ∧ (z5 ≤ Y z1 - z2 ∧ z5 ≤ Y z3 - z4)))) (b : (y = 1 ∧ (((0 ≤ z1 ∧ z1 ≤ 3) ∧ (0 ≤ z3 ∧ z3 ≤ 3) ∧ (0 ≤ z2 ∧ 0 ≤ z4 ∧ 0 ≤ z5)) ∧ (¬ gz g z1 = -1 ∧ ¬ gz g z3 = -1) ∧ gz f z1 = gz f z3 ∧ (z5 ≤ gz g z1 - z2 ∧ z5 ≤ gz g z3 - z4))) ∨ (y = 0 ∧ ¬ (((0 ≤ z1 ∧ z1 ≤ 3) ∧ (0 ≤ z3 ∧ z3 ≤ 3) ∧ (0 ≤ z2 ∧ 0 ≤ z4 ∧ 0 ≤ z5)) ∧ (¬ gz g z1 = -1 ∧ ¬ gz g z3 = -1) ∧ gz f z1 = gz f z3 ∧ (z5 ≤ gz g z1 - z2 ∧ z5 ≤ gz g z3 - z4)))) : x = y := by
  rcases a with ⟨a1, a2⟩ | ⟨a1, a2⟩ <;> rcases b with ⟨b1, b2⟩ | ⟨b1, b2⟩
  · rw [a1, b1]
  · refine absurd ?_ b2
    obtain ⟨⟨p, q, r⟩, d⟩ := a2
    have u := h z1 p.1 p.2
    have v := h z3 q.1 q.2
    rw [u.1, u.2, v.1, v.2]
    exact ⟨⟨p, q, r⟩, d⟩
  · refine absurd ?_ a2
    obtain ⟨⟨p, q, r⟩, d⟩ := b2
    have u := h z1 p.1 p.2
    have v := h z3 q.1 q.2
    rw [u.1, u.2, v.1, v.2] at d
    exact ⟨⟨p, q, r⟩, d⟩
  · rw [a1, b1]
theorem tr_a {G : Prop} {z1 z2 z3 q s m S M s0 m0 S0 M0 : Int} (p : ((z1 = q ∧ G) ∧ s = z2 ∧ m = z3) ∨ (¬ (z1 = q ∧ G) ∧ s = s0 ∧ m = m0)) (g : G) (a1 : (q = z1 ∧ S = z2) ∨ (¬ q = z1 ∧ S = S0)) (a2 : (q = z1 ∧ M = z3) ∨ (¬ q = z1 ∧ M = M0)) (b : S0 = s0 ∧ M0 = m0) : S = s ∧ M = m := by
  rcases p with ⟨⟨h, _⟩, hs, hm⟩ | ⟨h, hs, hm⟩
  · constructor <;> omega
  · have h' : ¬ z1 = q := fun e => h ⟨e, g⟩
    constructor <;> omega
theorem tr_b {G : Prop} {z1 z2 z3 q s m s0 m0 S0 M0 : Int} (p : ((z1 = q ∧ G) ∧ s = z2 ∧ m = z3) ∨ (¬ (z1 = q ∧ G) ∧ s = s0 ∧ m = m0)) (g : ¬ G) (b : S0 = s0 ∧ M0 = m0) : S0 = s ∧ M0 = m := by
  rcases p with ⟨⟨_, h⟩, _⟩ | ⟨_, hs, hm⟩
  · exact absurd h g
  · constructor <;> omega
