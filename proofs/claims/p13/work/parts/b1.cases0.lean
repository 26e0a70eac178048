section
def R_law : String := "SlowWorldsLaw"
def lw_P (b : Addr) (xs : List Int32) (args : Array Value) (s : State) : Prop := args = #[.ref b] ∧ s.IntsAt b xs ∧ xs.length ≤ 3072 ∧ (Jvm.Cond.and given_1 narrow_1).before args s = true
def lw_Q (_ : Array Value) (s : State) (o : Outcome) (t : State) : Prop := o = .returned (some (.int 1)) ∧ Framed s o t [] 600000 7302250
def lw_Z (below : List Frame) (a : Array Value) (s : State) : State → Prop := fun t => ∃ o, t.status = .running ∧ Ended t below o ∧ lw_Q a s o t
/-- the law's own end, with 1 on the stack, nothing written that was there before, its room as the claim has it -/
theorem lw_ret {p : Program} {l : Launch} {e : Env} {s : State} {m : MethodId} {below : List Frame} {meth : Method} {c : Code} {b : Nat} (hx : p.tables.exec = Jvm.exec) (hb : c.code = code) (hr : meth.sig.returnType = ret) (hlocks : meth.locks = false) {pc : Nat} {H : Heap} {ls : Array Slot} (hdg : decode code pc = .ok (.ireturn, 1)) : W p l e room_1 s m #[Value.ref b] below meth c H [] 600000 7302250 (lw_Z below #[Value.ref b] s) (F0 m pc ls [.int 1]) := by
  intro T hT X
  obtain ⟨fs, hret, hrun, hended, hW, hframe⟩ := X.leave (v := some (.int 1)) (hlocks := hlocks) (fun h => by rw [hr] at h; cases h)
  have hmeth' : T.vm.method? m = some meth := X.method'
  refine ⟨T.setFrames fs, ?_, .returned (some (.int 1)), hrun, hended, rfl, ⟨_, rfl⟩, hW, hframe⟩
  jvm_step X.here [X.here.top, hx, hb, hdg, hmeth', hr, ret, narrow_b1]
  (try refine ⟨rfl, ?_⟩); (try refine ⟨rfl, ?_⟩)
  first | (intro acts; rw [hret _ acts rfl rfl rfl]) | rw [hret _ _ rfl rfl rfl]
  exact Steps.refl _
/-- what holds at the law's entry: the machine, the code, the tables' words (any of lw_tbl by 'hts w (by decide +kernel)'), the script of L ints xs at the cell b, what the Statement gives of the start (any of its parts by flat_of_before) -/
def lw_At (p : Program) (s : State) (m : MethodId) (meth : Method) (c : Code) (b L : Nat) (xs : Nat → Int32) : Prop :=
  p.tables.exec = Jvm.exec ∧ c.code = code ∧ meth.sig.returnType = ret ∧ c.maxLocals = 4 ∧ s.vm.findClass R_law = some m.cls ∧ (∀ w ∈ lw_tbl, w.before #[Value.ref b] s = true) ∧ va_X b L xs s s.heap ∧ b < s.heap.size ∧ meth.locks = false ∧ (Jvm.Cond.and given_1 narrow_1).before #[Value.ref b] s = true
theorem lroom (b : Bool) : 123 + cz true b ≤ room_1.cells ∧ 16705 + sz true b ≤ room_1.slots := by
  cases b
  · exact ⟨Nat.le_of_ble_eq_true rfl, Nat.le_of_ble_eq_true rfl⟩
  · exact ⟨Nat.le_of_ble_eq_true rfl, Nat.le_of_ble_eq_true rfl⟩
/-- what stays as it is while the law runs -/
def LFX (p : Program) (s : State) (m : MethodId) (meth : Method) (c : Code) (b L : Nat) (xs : Nat → Int32) (A : Nat → Prop) (D : va_G) (k : Nat → ClassId) (sa sv : Nat) : Prop :=
  p.tables.exec = Jvm.exec ∧ c.code = code ∧ meth.sig.returnType = ret ∧ c.maxLocals = 4 ∧ s.vm.findClass R_law = some m.cls ∧ (∀ w ∈ gw, w.before #[Value.ref b] s = true) ∧ KK D k s ∧ va_X b L xs s s.heap ∧ b < s.heap.size ∧ ¬ A b ∧ (∀ q : Nat, s.heap.size ≤ q → A q) ∧ (∀ q : Nat, A q → s.heap.size ≤ q) ∧ meth.locks = false ∧ SY sa sv keyF A s s.heap ∧ vk_R RX12 175 keyT sa s ∧ L ≤ 3072
/-- the law at a place: the world stands, i is in its local -/
def LAT (p : Program) (l : Launch) (e : Env) (s : State) (m : MethodId) (below : List Frame) (meth : Method) (c : Code) (b : Nat) (A : Nat → Prop) (D : va_G) (k : Nat → ClassId) (pc : Nat) (i : Int) : Prop :=
  ∀ (a : Nat → Nat) (IA : Nat → Int) (LA : Nat → Int64) (FA : Nat → Nat → Int32) (QA : Nat → Nat → Int64) (VA : Nat → Value) (IB : Nat → Int) (LB : Nat → Int64) (FB : Nat → Nat → Int32) (QB : Nat → Nat → Int64) (VB : Nat → Value) (IC : Nat → Int) (LC : Nat → Int64) (FC : Nat → Nat → Int32) (QC : Nat → Nat → Int64) (VC : Nat → Value) (ID : Nat → Int) (LD : Nat → Int64) (FD : Nat → Nat → Int32) (QD : Nat → Nat → Int64) (VD : Nat → Value) (IR : Nat → Int) (LR : Nat → Int64) (FR : Nat → Nat → Int32) (QR : Nat → Nat → Int64) (VR : Nat → Value) (r : Ry) (H : Heap) (locs : List Loc) (ls : Array Slot), INV IA FA QA IB FB QB IC FC QC ID FD QD IR FR QR → RT k (RX (FA 0) (FA 1) (IA 3) (IA 4)) r → va_P D vwCl (WLL k a IA LA FA QA VA IB LB FB QB VB IC LC FC QC VC ID LD FD QD VD IR LR FR QR VR r) H → va_D A (WLL k a IA LA FA QA VA IB LB FB QB VB IC LC FC QC VC ID LD FD QD VD IR LR FR QR VR r) → va_S A s.heap H locs → lv_has ls 4 [(3, .int (iZ i)), (2, .ref (a 106)), (1, .ref (a 0)), (0, .ref b)] → W p l e room_1 s m #[Value.ref b] below meth c H locs (123 + cz true r.b) (16705 + sz true r.b) (lw_Z below #[Value.ref b] s) (F0 m pc ls [])
theorem lt4 {t : Int} (h1 : 0 ≤ t) (h2 : t ≤ 3) : t = 0 ∨ t = 1 ∨ t = 2 ∨ t = 3 := by omega
theorem tr_a {G : Prop} {z1 z2 z3 q s m S M s0 m0 S0 M0 : Int} (p : ((z1 = q ∧ G) ∧ s = z2 ∧ m = z3) ∨ (¬ (z1 = q ∧ G) ∧ s = s0 ∧ m = m0)) (g : G) (a1 : (q = z1 ∧ S = z2) ∨ (¬ q = z1 ∧ S = S0)) (a2 : (q = z1 ∧ M = z3) ∨ (¬ q = z1 ∧ M = M0)) (b : S0 = s0 ∧ M0 = m0) : S = s ∧ M = m := by
  rcases p with ⟨⟨h, _⟩, hs, hm⟩ | ⟨h, hs, hm⟩
  · constructor <;> omega
  · have h' : ¬ z1 = q := fun e => h ⟨e, g⟩
    constructor <;> omega
theorem tr_b {G : Prop} {z1 z2 z3 q s m s0 m0 S0 M0 : Int} (p : ((z1 = q ∧ G) ∧ s = z2 ∧ m = z3) ∨ (¬ (z1 = q ∧ G) ∧ s = s0 ∧ m = m0)) (g : ¬ G) (b : S0 = s0 ∧ M0 = m0) : S0 = s ∧ M0 = m := by
  rcases p with ⟨⟨_, h⟩, _⟩ | ⟨_, hs, hm⟩
  · exact absurd h g
  · constructor <;> omega
def u9 {α : Type} (f : Nat → α) (n : Nat) (v : α) : Nat → α := fun i => cond (Nat.beq i n) v (f i)
theorem zi1 {L : Nat} {i : Int} (hi : 0 ≤ i ∧ i + 6 ≤ (L : Int)) (hL : L ≤ 3072) : vp_in (iZ (i + 1)) L := zin ⟨by omega, by omega⟩ (by omega)
theorem zi2 {L : Nat} {i : Int} (hi : 0 ≤ i ∧ i + 6 ≤ (L : Int)) (hL : L ≤ 3072) : vp_in (iZ (i + 2)) L := zin ⟨by omega, by omega⟩ (by omega)
theorem zi3 {L : Nat} {i : Int} (hi : 0 ≤ i ∧ i + 6 ≤ (L : Int)) (hL : L ≤ 3072) : vp_in (iZ (i + 3)) L := zin ⟨by omega, by omega⟩ (by omega)
theorem zi4 {L : Nat} {i : Int} (hi : 0 ≤ i ∧ i + 6 ≤ (L : Int)) (hL : L ≤ 3072) : vp_in (iZ (i + 4)) L := zin ⟨by omega, by omega⟩ (by omega)
theorem zi5 {L : Nat} {i : Int} (hi : 0 ≤ i ∧ i + 6 ≤ (L : Int)) (hL : L ≤ 3072) : vp_in (iZ (i + 5)) L := zin ⟨by omega, by omega⟩ (by omega)
theorem fd_rg {A B C D E F : Prop} {b b' : Nat → Int32} {t x1 x2 x3 x4 x5 : Int} (h : (A ∧ B ∧ C ∧ b' = b) ∨ (D ∧ E ∧ F ∧ xRw b' (fd5 (gz b) t x1 x2 x3 x4 x5) 900)) (hb : rgI b (-128) 127 900) : rgI b' (-128) 127 900 := by
  rcases h with ⟨-, -, -, rfl⟩ | ⟨-, -, -, h⟩
  · exact hb
  · intro e h1 h2
    rw [h e h1 h2]
    exact fd5_rg hb e h1 h2
theorem fd_eq {B C E F B2 C2 E2 F2 : Prop} {b b' p p' : Nat → Int32} {t u x1 x2 x3 x4 x5 : Int} (hq : t = u) (h : (t > 880 ∧ B ∧ C ∧ b' = b) ∨ (t ≤ 880 ∧ E ∧ F ∧ xRw b' (fd5 (gz b) t x1 x2 x3 x4 x5) 900)) (g : (u > 880 ∧ B2 ∧ C2 ∧ p' = p) ∨ (u ≤ 880 ∧ E2 ∧ F2 ∧ xRw p' (fd5 (gz p) u x1 x2 x3 x4 x5) 900)) (hb : ∀ e : Int, 0 ≤ e → e < 900 → gz b e = gz p e) : ∀ e : Int, 0 ≤ e → e < 900 → gz b' e = gz p' e := by
  subst hq
  rcases h with ⟨h1, -, -, rfl⟩ | ⟨h1, -, -, h⟩ <;> rcases g with ⟨g1, -, -, rfl⟩ | ⟨g1, -, -, g⟩
  · exact hb
  · exact absurd g1 (by omega)
  · exact absurd h1 (by omega)
  · intro e a c
    rw [h e a c, g e a c]
    exact fd5_like hb e a c
end

section
theorem qc_X11_status : Cond.code yX11_status cX11_status 1 (some .int) ∈ gw := tbt (tb3 (List.mem_of_getElem? (i := 8) rfl)) rfl
theorem qi_yX11_status : Cond.instanceMethod yX11_status ∈ gw := tbt (tb3 (List.mem_of_getElem? (i := 6) rfl)) rfl
theorem qs_X11_status : Cond.selects (yX11_status).cls yX11_status yX11_status ∈ gw := tbt (tb3 (List.mem_of_getElem? (i := 7) rfl)) rfl
theorem ci_X11_status : CIv yX11_status cX11_status 1 (some .int) 0 := ⟨qc_X11_status, qi_yX11_status, qs_X11_status, qz_X11, by decide +kernel⟩
theorem qm_L_13 : Cond.methodLink RL 13 yX11_status ∈ gw := tbt (tb3 (List.mem_of_getElem? (i := 5) rfl)) rfl
theorem qc_X12_status : Cond.code yX12_status cX12_status 1 (some .int) ∈ gw := tbt (tb6 (List.mem_of_getElem? (i := 156) rfl)) rfl
theorem qi_yX12_status : Cond.instanceMethod yX12_status ∈ gw := tbt (tb6 (List.mem_of_getElem? (i := 154) rfl)) rfl
theorem qs_X12_status : Cond.selects (yX12_status).cls yX12_status yX12_status ∈ gw := tbt (tb6 (List.mem_of_getElem? (i := 155) rfl)) rfl
theorem ci_X12_status : CIv yX12_status cX12_status 1 (some .int) 0 := ⟨qc_X12_status, qi_yX12_status, qs_X12_status, qz_X12, by decide +kernel⟩
theorem qm_L_17 : Cond.methodLink RL 17 yX12_status ∈ gw := tbt (tb6 (List.mem_of_getElem? (i := 153) rfl)) rfl
theorem qc_X11_top : Cond.code yX11_top cX11_top 1 (some .long) ∈ gw := tbt (tb3 (List.mem_of_getElem? (i := 12) rfl)) rfl
theorem qi_yX11_top : Cond.instanceMethod yX11_top ∈ gw := tbt (tb3 (List.mem_of_getElem? (i := 10) rfl)) rfl
theorem qs_X11_top : Cond.selects (yX11_top).cls yX11_top yX11_top ∈ gw := tbt (tb3 (List.mem_of_getElem? (i := 11) rfl)) rfl
theorem ci_X11_top : CIv yX11_top cX11_top 1 (some .long) 0 := ⟨qc_X11_top, qi_yX11_top, qs_X11_top, qz_X11, by decide +kernel⟩
theorem qm_L_18 : Cond.methodLink RL 18 yX11_top ∈ gw := tbt (tb3 (List.mem_of_getElem? (i := 9) rfl)) rfl
theorem qc_X12_top : Cond.code yX12_top cX12_top 1 (some .long) ∈ gw := tbt (tb6 (List.mem_of_getElem? (i := 160) rfl)) rfl
theorem qi_yX12_top : Cond.instanceMethod yX12_top ∈ gw := tbt (tb6 (List.mem_of_getElem? (i := 158) rfl)) rfl
theorem qs_X12_top : Cond.selects (yX12_top).cls yX12_top yX12_top ∈ gw := tbt (tb6 (List.mem_of_getElem? (i := 159) rfl)) rfl
theorem ci_X12_top : CIv yX12_top cX12_top 1 (some .long) 0 := ⟨qc_X12_top, qi_yX12_top, qs_X12_top, qz_X12, by decide +kernel⟩
theorem qm_L_22 : Cond.methodLink RL 22 yX12_top ∈ gw := tbt (tb6 (List.mem_of_getElem? (i := 157) rfl)) rfl
theorem qc_X11_bottom : Cond.code yX11_bottom cX11_bottom 1 (some .long) ∈ gw := tbt (tb3 (List.mem_of_getElem? (i := 16) rfl)) rfl
theorem qi_yX11_bottom : Cond.instanceMethod yX11_bottom ∈ gw := tbt (tb3 (List.mem_of_getElem? (i := 14) rfl)) rfl
theorem qs_X11_bottom : Cond.selects (yX11_bottom).cls yX11_bottom yX11_bottom ∈ gw := tbt (tb3 (List.mem_of_getElem? (i := 15) rfl)) rfl
theorem ci_X11_bottom : CIv yX11_bottom cX11_bottom 1 (some .long) 0 := ⟨qc_X11_bottom, qi_yX11_bottom, qs_X11_bottom, qz_X11, by decide +kernel⟩
theorem qm_L_23 : Cond.methodLink RL 23 yX11_bottom ∈ gw := tbt (tb3 (List.mem_of_getElem? (i := 13) rfl)) rfl
theorem qc_X12_bottom : Cond.code yX12_bottom cX12_bottom 1 (some .long) ∈ gw := tbt (tb6 (List.mem_of_getElem? (i := 164) rfl)) rfl
theorem qi_yX12_bottom : Cond.instanceMethod yX12_bottom ∈ gw := tbt (tb6 (List.mem_of_getElem? (i := 162) rfl)) rfl
theorem qs_X12_bottom : Cond.selects (yX12_bottom).cls yX12_bottom yX12_bottom ∈ gw := tbt (tb6 (List.mem_of_getElem? (i := 163) rfl)) rfl
theorem ci_X12_bottom : CIv yX12_bottom cX12_bottom 1 (some .long) 0 := ⟨qc_X12_bottom, qi_yX12_bottom, qs_X12_bottom, qz_X12, by decide +kernel⟩
theorem qm_L_26 : Cond.methodLink RL 26 yX12_bottom ∈ gw := tbt (tb6 (List.mem_of_getElem? (i := 161) rfl)) rfl
theorem qc_X11_tray : Cond.code yX11_tray cX11_tray 4 (some .boolean) ∈ gw := tbt (tb3 (List.mem_of_getElem? (i := 20) rfl)) rfl
theorem qi_yX11_tray : Cond.instanceMethod yX11_tray ∈ gw := tbt (tb3 (List.mem_of_getElem? (i := 18) rfl)) rfl
theorem qs_X11_tray : Cond.selects (yX11_tray).cls yX11_tray yX11_tray ∈ gw := tbt (tb3 (List.mem_of_getElem? (i := 19) rfl)) rfl
theorem ci_X11_tray : CIv yX11_tray cX11_tray 4 (some .boolean) 3 := ⟨qc_X11_tray, qi_yX11_tray, qs_X11_tray, qz_X11, by decide +kernel⟩
theorem qm_L_27 : Cond.methodLink RL 27 yX11_tray ∈ gw := tbt (tb3 (List.mem_of_getElem? (i := 17) rfl)) rfl
theorem qc_X12_tray : Cond.code yX12_tray cX12_tray 5 (some .boolean) ∈ gw := tbt (tb6 (List.mem_of_getElem? (i := 168) rfl)) rfl
theorem qi_yX12_tray : Cond.instanceMethod yX12_tray ∈ gw := tbt (tb6 (List.mem_of_getElem? (i := 166) rfl)) rfl
theorem qs_X12_tray : Cond.selects (yX12_tray).cls yX12_tray yX12_tray ∈ gw := tbt (tb6 (List.mem_of_getElem? (i := 167) rfl)) rfl
theorem ci_X12_tray : CIv yX12_tray cX12_tray 5 (some .boolean) 3 := ⟨qc_X12_tray, qi_yX12_tray, qs_X12_tray, qz_X12, by decide +kernel⟩
theorem qm_L_31 : Cond.methodLink RL 31 yX12_tray ∈ gw := tbt (tb6 (List.mem_of_getElem? (i := 165) rfl)) rfl
theorem qk_L_32 : Cond.constantLong RL 32 (4294967295) ∈ gw := tbt (tb9 (List.mem_of_getElem? (i := 50) rfl)) rfl
theorem qc_X11_write : Cond.code yX11_write cX11_write 6 (some .boolean) ∈ gw := tbt (tb3 (List.mem_of_getElem? (i := 45) rfl)) rfl
theorem qi_yX11_write : Cond.instanceMethod yX11_write ∈ gw := tbt (tb3 (List.mem_of_getElem? (i := 43) rfl)) rfl
theorem qs_X11_write : Cond.selects (yX11_write).cls yX11_write yX11_write ∈ gw := tbt (tb3 (List.mem_of_getElem? (i := 44) rfl)) rfl
theorem ci_X11_write : CIv yX11_write cX11_write 6 (some .boolean) 3 := ⟨qc_X11_write, qi_yX11_write, qs_X11_write, qz_X11, by decide +kernel⟩
theorem qm_L_34 : Cond.methodLink RL 34 yX11_write ∈ gw := tbt (tb3 (List.mem_of_getElem? (i := 42) rfl)) rfl
theorem qc_X12_write : Cond.code yX12_write cX12_write 6 (some .boolean) ∈ gw := tbt (tb6 (List.mem_of_getElem? (i := 179) rfl)) rfl
theorem qi_yX12_write : Cond.instanceMethod yX12_write ∈ gw := tbt (tb6 (List.mem_of_getElem? (i := 177) rfl)) rfl
theorem qs_X12_write : Cond.selects (yX12_write).cls yX12_write yX12_write ∈ gw := tbt (tb6 (List.mem_of_getElem? (i := 178) rfl)) rfl
theorem ci_X12_write : CIv yX12_write cX12_write 6 (some .boolean) 3 := ⟨qc_X12_write, qi_yX12_write, qs_X12_write, qz_X12, by decide +kernel⟩
theorem qm_L_38 : Cond.methodLink RL 38 yX12_write ∈ gw := tbt (tb6 (List.mem_of_getElem? (i := 176) rfl)) rfl
theorem qc_X11_read : Cond.code yX11_read cX11_read 4 (some .long) ∈ gw := tbt (tb3 (List.mem_of_getElem? (i := 61) rfl)) rfl
theorem qi_yX11_read : Cond.instanceMethod yX11_read ∈ gw := tbt (tb3 (List.mem_of_getElem? (i := 59) rfl)) rfl
theorem qs_X11_read : Cond.selects (yX11_read).cls yX11_read yX11_read ∈ gw := tbt (tb3 (List.mem_of_getElem? (i := 60) rfl)) rfl
theorem ci_X11_read : CIv yX11_read cX11_read 4 (some .long) 2 := ⟨qc_X11_read, qi_yX11_read, qs_X11_read, qz_X11, by decide +kernel⟩
theorem qm_L_39 : Cond.methodLink RL 39 yX11_read ∈ gw := tbt (tb3 (List.mem_of_getElem? (i := 58) rfl)) rfl
theorem qc_X12_read : Cond.code yX12_read cX12_read 3 (some .long) ∈ gw := tbt (tb6 (List.mem_of_getElem? (i := 190) rfl)) rfl
theorem qi_yX12_read : Cond.instanceMethod yX12_read ∈ gw := tbt (tb6 (List.mem_of_getElem? (i := 188) rfl)) rfl
theorem qs_X12_read : Cond.selects (yX12_read).cls yX12_read yX12_read ∈ gw := tbt (tb6 (List.mem_of_getElem? (i := 189) rfl)) rfl
theorem ci_X12_read : CIv yX12_read cX12_read 3 (some .long) 2 := ⟨qc_X12_read, qi_yX12_read, qs_X12_read, qz_X12, by decide +kernel⟩
theorem qm_L_43 : Cond.methodLink RL 43 yX12_read ∈ gw := tbt (tb6 (List.mem_of_getElem? (i := 187) rfl)) rfl
theorem qc_X11_pour : Cond.code yX11_pour cX11_pour 8 (some .boolean) ∈ gw := tbt (tb3 (List.mem_of_getElem? (i := 69) rfl)) rfl
theorem qi_yX11_pour : Cond.instanceMethod yX11_pour ∈ gw := tbt (tb3 (List.mem_of_getElem? (i := 67) rfl)) rfl
theorem qs_X11_pour : Cond.selects (yX11_pour).cls yX11_pour yX11_pour ∈ gw := tbt (tb3 (List.mem_of_getElem? (i := 68) rfl)) rfl
theorem ci_X11_pour : CIv yX11_pour cX11_pour 8 (some .boolean) 5 := ⟨qc_X11_pour, qi_yX11_pour, qs_X11_pour, qz_X11, by decide +kernel⟩
theorem qm_L_44 : Cond.methodLink RL 44 yX11_pour ∈ gw := tbt (tb3 (List.mem_of_getElem? (i := 66) rfl)) rfl
theorem qc_X12_pour : Cond.code yX12_pour cX12_pour 8 (some .boolean) ∈ gw := tbt (tb6 (List.mem_of_getElem? (i := 195) rfl)) rfl
theorem qi_yX12_pour : Cond.instanceMethod yX12_pour ∈ gw := tbt (tb6 (List.mem_of_getElem? (i := 193) rfl)) rfl
theorem qs_X12_pour : Cond.selects (yX12_pour).cls yX12_pour yX12_pour ∈ gw := tbt (tb6 (List.mem_of_getElem? (i := 194) rfl)) rfl
theorem ci_X12_pour : CIv yX12_pour cX12_pour 8 (some .boolean) 5 := ⟨qc_X12_pour, qi_yX12_pour, qs_X12_pour, qz_X12, by decide +kernel⟩
theorem qm_L_48 : Cond.methodLink RL 48 yX12_pour ∈ gw := tbt (tb6 (List.mem_of_getElem? (i := 192) rfl)) rfl
theorem qc_X11_feed : Cond.code yX11_feed cX11_feed 6 (some .int) ∈ gw := tbt (tb3 (List.mem_of_getElem? (i := 80) rfl)) rfl
theorem qi_yX11_feed : Cond.instanceMethod yX11_feed ∈ gw := tbt (tb3 (List.mem_of_getElem? (i := 78) rfl)) rfl
theorem qs_X11_feed : Cond.selects (yX11_feed).cls yX11_feed yX11_feed ∈ gw := tbt (tb3 (List.mem_of_getElem? (i := 79) rfl)) rfl
theorem ci_X11_feed : CIv yX11_feed cX11_feed 6 (some .int) 5 := ⟨qc_X11_feed, qi_yX11_feed, qs_X11_feed, qz_X11, by decide +kernel⟩
theorem qm_L_49 : Cond.methodLink RL 49 yX11_feed ∈ gw := tbt (tb3 (List.mem_of_getElem? (i := 77) rfl)) rfl
theorem qc_X12_feed : Cond.code yX12_feed cX12_feed 6 (some .int) ∈ gw := tbt (tb6 (List.mem_of_getElem? (i := 199) rfl)) rfl
theorem qi_yX12_feed : Cond.instanceMethod yX12_feed ∈ gw := tbt (tb6 (List.mem_of_getElem? (i := 197) rfl)) rfl
theorem qs_X12_feed : Cond.selects (yX12_feed).cls yX12_feed yX12_feed ∈ gw := tbt (tb6 (List.mem_of_getElem? (i := 198) rfl)) rfl
theorem ci_X12_feed : CIv yX12_feed cX12_feed 6 (some .int) 5 := ⟨qc_X12_feed, qi_yX12_feed, qs_X12_feed, qz_X12, by decide +kernel⟩
theorem qm_L_53 : Cond.methodLink RL 53 yX12_feed ∈ gw := tbt (tb6 (List.mem_of_getElem? (i := 196) rfl)) rfl
theorem dL_law_344 : decode cL_law 344 = .ok (.aload_n 1, 1) := fq1_43 (fl_5 (j := 24) rfl rfl)
theorem dL_law_345 : decode cL_law 345 = .ok (.invokevirtual 13, 3) := fq3_182 (fl_5 (j := 25) rfl rfl) (fl_5 (j := 26) rfl rfl) (fl_5 (j := 27) rfl rfl) rfl
theorem dL_law_348 : decode cL_law 348 = .ok (.pop, 1) := fq1_87 (fl_5 (j := 28) rfl rfl)
theorem dL_law_349 : decode cL_law 349 = .ok (.aload_n 2, 1) := fq1_44 (fl_5 (j := 29) rfl rfl)
theorem dL_law_350 : decode cL_law 350 = .ok (.invokevirtual 17, 3) := fq3_182 (fl_5 (j := 30) rfl rfl) (fl_5 (j := 31) rfl rfl) (fl_5 (j := 32) rfl rfl) rfl
theorem dL_law_353 : decode cL_law 353 = .ok (.pop, 1) := fq1_87 (fl_5 (j := 33) rfl rfl)
theorem dL_law_354 : decode cL_law 354 = .ok (.goto 2492, 3) := fq3_167 (fl_5 (j := 34) rfl rfl) (fl_5 (j := 35) rfl rfl) (fl_5 (j := 36) rfl rfl) (s2p rfl (bl rfl))
theorem dL_law_357 : decode cL_law 357 = .ok (.aload_n 1, 1) := fq1_43 (fl_5 (j := 37) rfl rfl)
theorem dL_law_358 : decode cL_law 358 = .ok (.invokevirtual 18, 3) := fq3_182 (fl_5 (j := 38) rfl rfl) (fl_5 (j := 39) rfl rfl) (fl_5 (j := 40) rfl rfl) rfl
theorem dL_law_361 : decode cL_law 361 = .ok (.pop2, 1) := fq1_88 (fl_5 (j := 41) rfl rfl)
theorem dL_law_362 : decode cL_law 362 = .ok (.aload_n 2, 1) := fq1_44 (fl_5 (j := 42) rfl rfl)
theorem dL_law_363 : decode cL_law 363 = .ok (.invokevirtual 22, 3) := fq3_182 (fl_5 (j := 43) rfl rfl) (fl_5 (j := 44) rfl rfl) (fl_5 (j := 45) rfl rfl) rfl
theorem dL_law_366 : decode cL_law 366 = .ok (.pop2, 1) := fq1_88 (fl_5 (j := 46) rfl rfl)
theorem dL_law_367 : decode cL_law 367 = .ok (.goto 2479, 3) := fq3_167 (fl_5 (j := 47) rfl rfl) (fl_5 (j := 48) rfl rfl) (fl_5 (j := 49) rfl rfl) (s2p rfl (bl rfl))
theorem dL_law_370 : decode cL_law 370 = .ok (.aload_n 1, 1) := fq1_43 (fl_5 (j := 50) rfl rfl)
theorem dL_law_371 : decode cL_law 371 = .ok (.invokevirtual 23, 3) := fq3_182 (fl_5 (j := 51) rfl rfl) (fl_5 (j := 52) rfl rfl) (fl_5 (j := 53) rfl rfl) rfl
theorem dL_law_374 : decode cL_law 374 = .ok (.pop2, 1) := fq1_88 (fl_5 (j := 54) rfl rfl)
theorem dL_law_375 : decode cL_law 375 = .ok (.aload_n 2, 1) := fq1_44 (fl_5 (j := 55) rfl rfl)
theorem dL_law_376 : decode cL_law 376 = .ok (.invokevirtual 26, 3) := fq3_182 (fl_5 (j := 56) rfl rfl) (fl_5 (j := 57) rfl rfl) (fl_5 (j := 58) rfl rfl) rfl
theorem dL_law_379 : decode cL_law 379 = .ok (.pop2, 1) := fq1_88 (fl_5 (j := 59) rfl rfl)
theorem dL_law_380 : decode cL_law 380 = .ok (.goto 2466, 3) := fq3_167 (fl_5 (j := 60) rfl rfl) (fl_5 (j := 61) rfl rfl) (fl_5 (j := 62) rfl rfl) (s2p rfl (bl rfl))
theorem dL_law_383 : decode cL_law 383 = .ok (.aload_n 1, 1) := fq1_43 (fl_5 (j := 63) rfl rfl)
theorem dL_law_384 : decode cL_law 384 = .ok (.aload_n 0, 1) := fq1_42 (fl_6 (j := 0) rfl rfl)
theorem dL_law_385 : decode cL_law 385 = .ok (.iload_n 3, 1) := fq1_29 (fl_6 (j := 1) rfl rfl)
theorem dL_law_386 : decode cL_law 386 = .ok (.iconst 1, 1) := fq1_4 (fl_6 (j := 2) rfl rfl)
theorem dL_law_387 : decode cL_law 387 = .ok (.iadd, 1) := fq1_96 (fl_6 (j := 3) rfl rfl)
theorem dL_law_388 : decode cL_law 388 = .ok (.iaload, 1) := fq1_46 (fl_6 (j := 4) rfl rfl)
theorem dL_law_389 : decode cL_law 389 = .ok (.aload_n 0, 1) := fq1_42 (fl_6 (j := 5) rfl rfl)
theorem dL_law_390 : decode cL_law 390 = .ok (.iload_n 3, 1) := fq1_29 (fl_6 (j := 6) rfl rfl)
theorem dL_law_391 : decode cL_law 391 = .ok (.iconst 2, 1) := fq1_5 (fl_6 (j := 7) rfl rfl)
theorem dL_law_392 : decode cL_law 392 = .ok (.iadd, 1) := fq1_96 (fl_6 (j := 8) rfl rfl)
theorem dL_law_393 : decode cL_law 393 = .ok (.iaload, 1) := fq1_46 (fl_6 (j := 9) rfl rfl)
theorem dL_law_394 : decode cL_law 394 = .ok (.aload_n 0, 1) := fq1_42 (fl_6 (j := 10) rfl rfl)
theorem dL_law_395 : decode cL_law 395 = .ok (.iload_n 3, 1) := fq1_29 (fl_6 (j := 11) rfl rfl)
theorem dL_law_396 : decode cL_law 396 = .ok (.iconst 3, 1) := fq1_6 (fl_6 (j := 12) rfl rfl)
theorem dL_law_397 : decode cL_law 397 = .ok (.iadd, 1) := fq1_96 (fl_6 (j := 13) rfl rfl)
theorem dL_law_398 : decode cL_law 398 = .ok (.iaload, 1) := fq1_46 (fl_6 (j := 14) rfl rfl)
theorem dL_law_399 : decode cL_law 399 = .ok (.invokevirtual 27, 3) := fq3_182 (fl_6 (j := 15) rfl rfl) (fl_6 (j := 16) rfl rfl) (fl_6 (j := 17) rfl rfl) rfl
theorem dL_law_402 : decode cL_law 402 = .ok (.pop, 1) := fq1_87 (fl_6 (j := 18) rfl rfl)
theorem dL_law_403 : decode cL_law 403 = .ok (.aload_n 2, 1) := fq1_44 (fl_6 (j := 19) rfl rfl)
theorem dL_law_404 : decode cL_law 404 = .ok (.aload_n 0, 1) := fq1_42 (fl_6 (j := 20) rfl rfl)
theorem dL_law_405 : decode cL_law 405 = .ok (.iload_n 3, 1) := fq1_29 (fl_6 (j := 21) rfl rfl)
theorem dL_law_406 : decode cL_law 406 = .ok (.iconst 1, 1) := fq1_4 (fl_6 (j := 22) rfl rfl)
theorem dL_law_407 : decode cL_law 407 = .ok (.iadd, 1) := fq1_96 (fl_6 (j := 23) rfl rfl)
theorem dL_law_408 : decode cL_law 408 = .ok (.iaload, 1) := fq1_46 (fl_6 (j := 24) rfl rfl)
theorem dL_law_409 : decode cL_law 409 = .ok (.aload_n 0, 1) := fq1_42 (fl_6 (j := 25) rfl rfl)
theorem dL_law_410 : decode cL_law 410 = .ok (.iload_n 3, 1) := fq1_29 (fl_6 (j := 26) rfl rfl)
theorem dL_law_411 : decode cL_law 411 = .ok (.iconst 2, 1) := fq1_5 (fl_6 (j := 27) rfl rfl)
theorem dL_law_412 : decode cL_law 412 = .ok (.iadd, 1) := fq1_96 (fl_6 (j := 28) rfl rfl)
theorem dL_law_413 : decode cL_law 413 = .ok (.iaload, 1) := fq1_46 (fl_6 (j := 29) rfl rfl)
theorem dL_law_414 : decode cL_law 414 = .ok (.aload_n 0, 1) := fq1_42 (fl_6 (j := 30) rfl rfl)
theorem dL_law_415 : decode cL_law 415 = .ok (.iload_n 3, 1) := fq1_29 (fl_6 (j := 31) rfl rfl)
theorem dL_law_416 : decode cL_law 416 = .ok (.iconst 3, 1) := fq1_6 (fl_6 (j := 32) rfl rfl)
theorem dL_law_417 : decode cL_law 417 = .ok (.iadd, 1) := fq1_96 (fl_6 (j := 33) rfl rfl)
theorem dL_law_418 : decode cL_law 418 = .ok (.iaload, 1) := fq1_46 (fl_6 (j := 34) rfl rfl)
theorem dL_law_419 : decode cL_law 419 = .ok (.invokevirtual 31, 3) := fq3_182 (fl_6 (j := 35) rfl rfl) (fl_6 (j := 36) rfl rfl) (fl_6 (j := 37) rfl rfl) rfl
theorem dL_law_422 : decode cL_law 422 = .ok (.pop, 1) := fq1_87 (fl_6 (j := 38) rfl rfl)
theorem dL_law_423 : decode cL_law 423 = .ok (.goto 2423, 3) := fq3_167 (fl_6 (j := 39) rfl rfl) (fl_6 (j := 40) rfl rfl) (fl_6 (j := 41) rfl rfl) (s2p rfl (bl rfl))
theorem dL_law_426 : decode cL_law 426 = .ok (.aload_n 1, 1) := fq1_43 (fl_6 (j := 42) rfl rfl)
theorem dL_law_427 : decode cL_law 427 = .ok (.aload_n 0, 1) := fq1_42 (fl_6 (j := 43) rfl rfl)
theorem dL_law_428 : decode cL_law 428 = .ok (.iload_n 3, 1) := fq1_29 (fl_6 (j := 44) rfl rfl)
theorem dL_law_429 : decode cL_law 429 = .ok (.iconst 1, 1) := fq1_4 (fl_6 (j := 45) rfl rfl)
theorem dL_law_430 : decode cL_law 430 = .ok (.iadd, 1) := fq1_96 (fl_6 (j := 46) rfl rfl)
theorem dL_law_431 : decode cL_law 431 = .ok (.iaload, 1) := fq1_46 (fl_6 (j := 47) rfl rfl)
theorem dL_law_432 : decode cL_law 432 = .ok (.aload_n 0, 1) := fq1_42 (fl_6 (j := 48) rfl rfl)
theorem dL_law_433 : decode cL_law 433 = .ok (.iload_n 3, 1) := fq1_29 (fl_6 (j := 49) rfl rfl)
theorem dL_law_434 : decode cL_law 434 = .ok (.iconst 2, 1) := fq1_5 (fl_6 (j := 50) rfl rfl)
theorem dL_law_435 : decode cL_law 435 = .ok (.iadd, 1) := fq1_96 (fl_6 (j := 51) rfl rfl)
theorem dL_law_436 : decode cL_law 436 = .ok (.iaload, 1) := fq1_46 (fl_6 (j := 52) rfl rfl)
theorem dL_law_437 : decode cL_law 437 = .ok (.aload_n 0, 1) := fq1_42 (fl_6 (j := 53) rfl rfl)
theorem dL_law_438 : decode cL_law 438 = .ok (.iload_n 3, 1) := fq1_29 (fl_6 (j := 54) rfl rfl)
theorem dL_law_439 : decode cL_law 439 = .ok (.iconst 3, 1) := fq1_6 (fl_6 (j := 55) rfl rfl)
theorem dL_law_440 : decode cL_law 440 = .ok (.iadd, 1) := fq1_96 (fl_6 (j := 56) rfl rfl)
theorem dL_law_441 : decode cL_law 441 = .ok (.iaload, 1) := fq1_46 (fl_6 (j := 57) rfl rfl)
theorem dL_law_442 : decode cL_law 442 = .ok (.i2l, 1) := fq1_133 (fl_6 (j := 58) rfl rfl)
theorem dL_law_443 : decode cL_law 443 = .ok (.bipush 32, 2) := by decide +kernel
theorem dL_law_445 : decode cL_law 445 = .ok (.lshl, 1) := fq1_121 (fl_6 (j := 61) rfl rfl)
theorem dL_law_446 : decode cL_law 446 = .ok (.aload_n 0, 1) := fq1_42 (fl_6 (j := 62) rfl rfl)
theorem dL_law_447 : decode cL_law 447 = .ok (.iload_n 3, 1) := fq1_29 (fl_6 (j := 63) rfl rfl)
theorem dL_law_448 : decode cL_law 448 = .ok (.iconst 4, 1) := fq1_7 (fl_7 (j := 0) rfl rfl)
theorem dL_law_449 : decode cL_law 449 = .ok (.iadd, 1) := fq1_96 (fl_7 (j := 1) rfl rfl)
theorem dL_law_450 : decode cL_law 450 = .ok (.iaload, 1) := fq1_46 (fl_7 (j := 2) rfl rfl)
theorem dL_law_451 : decode cL_law 451 = .ok (.i2l, 1) := fq1_133 (fl_7 (j := 3) rfl rfl)
theorem dL_law_452 : decode cL_law 452 = .ok (.ldc2_w 32, 3) := by decide +kernel
theorem dL_law_455 : decode cL_law 455 = .ok (.land, 1) := fq1_127 (fl_7 (j := 7) rfl rfl)
theorem dL_law_456 : decode cL_law 456 = .ok (.lor, 1) := fq1_129 (fl_7 (j := 8) rfl rfl)
theorem dL_law_457 : decode cL_law 457 = .ok (.invokevirtual 34, 3) := fq3_182 (fl_7 (j := 9) rfl rfl) (fl_7 (j := 10) rfl rfl) (fl_7 (j := 11) rfl rfl) rfl
theorem dL_law_460 : decode cL_law 460 = .ok (.pop, 1) := fq1_87 (fl_7 (j := 12) rfl rfl)
theorem dL_law_461 : decode cL_law 461 = .ok (.aload_n 2, 1) := fq1_44 (fl_7 (j := 13) rfl rfl)
theorem dL_law_462 : decode cL_law 462 = .ok (.aload_n 0, 1) := fq1_42 (fl_7 (j := 14) rfl rfl)
theorem dL_law_463 : decode cL_law 463 = .ok (.iload_n 3, 1) := fq1_29 (fl_7 (j := 15) rfl rfl)
theorem dL_law_464 : decode cL_law 464 = .ok (.iconst 1, 1) := fq1_4 (fl_7 (j := 16) rfl rfl)
theorem dL_law_465 : decode cL_law 465 = .ok (.iadd, 1) := fq1_96 (fl_7 (j := 17) rfl rfl)
theorem dL_law_466 : decode cL_law 466 = .ok (.iaload, 1) := fq1_46 (fl_7 (j := 18) rfl rfl)
theorem dL_law_467 : decode cL_law 467 = .ok (.aload_n 0, 1) := fq1_42 (fl_7 (j := 19) rfl rfl)
theorem dL_law_468 : decode cL_law 468 = .ok (.iload_n 3, 1) := fq1_29 (fl_7 (j := 20) rfl rfl)
theorem dL_law_469 : decode cL_law 469 = .ok (.iconst 2, 1) := fq1_5 (fl_7 (j := 21) rfl rfl)
theorem dL_law_470 : decode cL_law 470 = .ok (.iadd, 1) := fq1_96 (fl_7 (j := 22) rfl rfl)
theorem dL_law_471 : decode cL_law 471 = .ok (.iaload, 1) := fq1_46 (fl_7 (j := 23) rfl rfl)
theorem dL_law_472 : decode cL_law 472 = .ok (.aload_n 0, 1) := fq1_42 (fl_7 (j := 24) rfl rfl)
theorem dL_law_473 : decode cL_law 473 = .ok (.iload_n 3, 1) := fq1_29 (fl_7 (j := 25) rfl rfl)
theorem dL_law_474 : decode cL_law 474 = .ok (.iconst 3, 1) := fq1_6 (fl_7 (j := 26) rfl rfl)
theorem dL_law_475 : decode cL_law 475 = .ok (.iadd, 1) := fq1_96 (fl_7 (j := 27) rfl rfl)
theorem dL_law_476 : decode cL_law 476 = .ok (.iaload, 1) := fq1_46 (fl_7 (j := 28) rfl rfl)
theorem dL_law_477 : decode cL_law 477 = .ok (.i2l, 1) := fq1_133 (fl_7 (j := 29) rfl rfl)
theorem dL_law_478 : decode cL_law 478 = .ok (.bipush 32, 2) := by decide +kernel
theorem dL_law_480 : decode cL_law 480 = .ok (.lshl, 1) := fq1_121 (fl_7 (j := 32) rfl rfl)
theorem dL_law_481 : decode cL_law 481 = .ok (.aload_n 0, 1) := fq1_42 (fl_7 (j := 33) rfl rfl)
theorem dL_law_482 : decode cL_law 482 = .ok (.iload_n 3, 1) := fq1_29 (fl_7 (j := 34) rfl rfl)
theorem dL_law_483 : decode cL_law 483 = .ok (.iconst 4, 1) := fq1_7 (fl_7 (j := 35) rfl rfl)
theorem dL_law_484 : decode cL_law 484 = .ok (.iadd, 1) := fq1_96 (fl_7 (j := 36) rfl rfl)
theorem dL_law_485 : decode cL_law 485 = .ok (.iaload, 1) := fq1_46 (fl_7 (j := 37) rfl rfl)
theorem dL_law_486 : decode cL_law 486 = .ok (.i2l, 1) := fq1_133 (fl_7 (j := 38) rfl rfl)
theorem dL_law_487 : decode cL_law 487 = .ok (.ldc2_w 32, 3) := by decide +kernel
theorem dL_law_490 : decode cL_law 490 = .ok (.land, 1) := fq1_127 (fl_7 (j := 42) rfl rfl)
theorem dL_law_491 : decode cL_law 491 = .ok (.lor, 1) := fq1_129 (fl_7 (j := 43) rfl rfl)
theorem dL_law_492 : decode cL_law 492 = .ok (.invokevirtual 38, 3) := fq3_182 (fl_7 (j := 44) rfl rfl) (fl_7 (j := 45) rfl rfl) (fl_7 (j := 46) rfl rfl) rfl
theorem dL_law_495 : decode cL_law 495 = .ok (.pop, 1) := fq1_87 (fl_7 (j := 47) rfl rfl)
theorem dL_law_496 : decode cL_law 496 = .ok (.goto 2350, 3) := fq3_167 (fl_7 (j := 48) rfl rfl) (fl_7 (j := 49) rfl rfl) (fl_7 (j := 50) rfl rfl) (s2p rfl (bl rfl))
theorem dL_law_499 : decode cL_law 499 = .ok (.aload_n 1, 1) := fq1_43 (fl_7 (j := 51) rfl rfl)
theorem dL_law_500 : decode cL_law 500 = .ok (.aload_n 0, 1) := fq1_42 (fl_7 (j := 52) rfl rfl)
theorem dL_law_501 : decode cL_law 501 = .ok (.iload_n 3, 1) := fq1_29 (fl_7 (j := 53) rfl rfl)
theorem dL_law_502 : decode cL_law 502 = .ok (.iconst 1, 1) := fq1_4 (fl_7 (j := 54) rfl rfl)
theorem dL_law_503 : decode cL_law 503 = .ok (.iadd, 1) := fq1_96 (fl_7 (j := 55) rfl rfl)
theorem dL_law_504 : decode cL_law 504 = .ok (.iaload, 1) := fq1_46 (fl_7 (j := 56) rfl rfl)
theorem dL_law_505 : decode cL_law 505 = .ok (.aload_n 0, 1) := fq1_42 (fl_7 (j := 57) rfl rfl)
theorem dL_law_506 : decode cL_law 506 = .ok (.iload_n 3, 1) := fq1_29 (fl_7 (j := 58) rfl rfl)
theorem dL_law_507 : decode cL_law 507 = .ok (.iconst 2, 1) := fq1_5 (fl_7 (j := 59) rfl rfl)
theorem dL_law_508 : decode cL_law 508 = .ok (.iadd, 1) := fq1_96 (fl_7 (j := 60) rfl rfl)
theorem dL_law_509 : decode cL_law 509 = .ok (.iaload, 1) := fq1_46 (fl_7 (j := 61) rfl rfl)
theorem dL_law_510 : decode cL_law 510 = .ok (.invokevirtual 39, 3) := fq3_182 (fl_7 (j := 62) rfl rfl) (fl_7 (j := 63) rfl rfl) (fl_8 (j := 0) rfl rfl) rfl
theorem dL_law_513 : decode cL_law 513 = .ok (.pop2, 1) := fq1_88 (fl_8 (j := 1) rfl rfl)
theorem dL_law_514 : decode cL_law 514 = .ok (.aload_n 2, 1) := fq1_44 (fl_8 (j := 2) rfl rfl)
theorem dL_law_515 : decode cL_law 515 = .ok (.aload_n 0, 1) := fq1_42 (fl_8 (j := 3) rfl rfl)
theorem dL_law_516 : decode cL_law 516 = .ok (.iload_n 3, 1) := fq1_29 (fl_8 (j := 4) rfl rfl)
theorem dL_law_517 : decode cL_law 517 = .ok (.iconst 1, 1) := fq1_4 (fl_8 (j := 5) rfl rfl)
theorem dL_law_518 : decode cL_law 518 = .ok (.iadd, 1) := fq1_96 (fl_8 (j := 6) rfl rfl)
theorem dL_law_519 : decode cL_law 519 = .ok (.iaload, 1) := fq1_46 (fl_8 (j := 7) rfl rfl)
theorem dL_law_520 : decode cL_law 520 = .ok (.aload_n 0, 1) := fq1_42 (fl_8 (j := 8) rfl rfl)
theorem dL_law_521 : decode cL_law 521 = .ok (.iload_n 3, 1) := fq1_29 (fl_8 (j := 9) rfl rfl)
theorem dL_law_522 : decode cL_law 522 = .ok (.iconst 2, 1) := fq1_5 (fl_8 (j := 10) rfl rfl)
theorem dL_law_523 : decode cL_law 523 = .ok (.iadd, 1) := fq1_96 (fl_8 (j := 11) rfl rfl)
theorem dL_law_524 : decode cL_law 524 = .ok (.iaload, 1) := fq1_46 (fl_8 (j := 12) rfl rfl)
theorem dL_law_525 : decode cL_law 525 = .ok (.invokevirtual 43, 3) := fq3_182 (fl_8 (j := 13) rfl rfl) (fl_8 (j := 14) rfl rfl) (fl_8 (j := 15) rfl rfl) rfl
theorem dL_law_528 : decode cL_law 528 = .ok (.pop2, 1) := fq1_88 (fl_8 (j := 16) rfl rfl)
theorem dL_law_529 : decode cL_law 529 = .ok (.goto 2317, 3) := fq3_167 (fl_8 (j := 17) rfl rfl) (fl_8 (j := 18) rfl rfl) (fl_8 (j := 19) rfl rfl) (s2p rfl (bl rfl))
theorem dL_law_532 : decode cL_law 532 = .ok (.aload_n 1, 1) := fq1_43 (fl_8 (j := 20) rfl rfl)
theorem dL_law_533 : decode cL_law 533 = .ok (.aload_n 0, 1) := fq1_42 (fl_8 (j := 21) rfl rfl)
theorem dL_law_534 : decode cL_law 534 = .ok (.iload_n 3, 1) := fq1_29 (fl_8 (j := 22) rfl rfl)
theorem dL_law_535 : decode cL_law 535 = .ok (.iconst 1, 1) := fq1_4 (fl_8 (j := 23) rfl rfl)
theorem dL_law_536 : decode cL_law 536 = .ok (.iadd, 1) := fq1_96 (fl_8 (j := 24) rfl rfl)
theorem dL_law_537 : decode cL_law 537 = .ok (.iaload, 1) := fq1_46 (fl_8 (j := 25) rfl rfl)
theorem dL_law_538 : decode cL_law 538 = .ok (.aload_n 0, 1) := fq1_42 (fl_8 (j := 26) rfl rfl)
theorem dL_law_539 : decode cL_law 539 = .ok (.iload_n 3, 1) := fq1_29 (fl_8 (j := 27) rfl rfl)
theorem dL_law_540 : decode cL_law 540 = .ok (.iconst 2, 1) := fq1_5 (fl_8 (j := 28) rfl rfl)
theorem dL_law_541 : decode cL_law 541 = .ok (.iadd, 1) := fq1_96 (fl_8 (j := 29) rfl rfl)
theorem dL_law_542 : decode cL_law 542 = .ok (.iaload, 1) := fq1_46 (fl_8 (j := 30) rfl rfl)
theorem dL_law_543 : decode cL_law 543 = .ok (.aload_n 0, 1) := fq1_42 (fl_8 (j := 31) rfl rfl)
theorem dL_law_544 : decode cL_law 544 = .ok (.iload_n 3, 1) := fq1_29 (fl_8 (j := 32) rfl rfl)
theorem dL_law_545 : decode cL_law 545 = .ok (.iconst 3, 1) := fq1_6 (fl_8 (j := 33) rfl rfl)
theorem dL_law_546 : decode cL_law 546 = .ok (.iadd, 1) := fq1_96 (fl_8 (j := 34) rfl rfl)
theorem dL_law_547 : decode cL_law 547 = .ok (.iaload, 1) := fq1_46 (fl_8 (j := 35) rfl rfl)
theorem dL_law_548 : decode cL_law 548 = .ok (.aload_n 0, 1) := fq1_42 (fl_8 (j := 36) rfl rfl)
theorem dL_law_549 : decode cL_law 549 = .ok (.iload_n 3, 1) := fq1_29 (fl_8 (j := 37) rfl rfl)
theorem dL_law_550 : decode cL_law 550 = .ok (.iconst 4, 1) := fq1_7 (fl_8 (j := 38) rfl rfl)
theorem dL_law_551 : decode cL_law 551 = .ok (.iadd, 1) := fq1_96 (fl_8 (j := 39) rfl rfl)
theorem dL_law_552 : decode cL_law 552 = .ok (.iaload, 1) := fq1_46 (fl_8 (j := 40) rfl rfl)
theorem dL_law_553 : decode cL_law 553 = .ok (.aload_n 0, 1) := fq1_42 (fl_8 (j := 41) rfl rfl)
theorem dL_law_554 : decode cL_law 554 = .ok (.iload_n 3, 1) := fq1_29 (fl_8 (j := 42) rfl rfl)
theorem dL_law_555 : decode cL_law 555 = .ok (.iconst 5, 1) := fq1_8 (fl_8 (j := 43) rfl rfl)
theorem dL_law_556 : decode cL_law 556 = .ok (.iadd, 1) := fq1_96 (fl_8 (j := 44) rfl rfl)
theorem dL_law_557 : decode cL_law 557 = .ok (.iaload, 1) := fq1_46 (fl_8 (j := 45) rfl rfl)
theorem dL_law_558 : decode cL_law 558 = .ok (.invokevirtual 44, 3) := fq3_182 (fl_8 (j := 46) rfl rfl) (fl_8 (j := 47) rfl rfl) (fl_8 (j := 48) rfl rfl) rfl
theorem dL_law_561 : decode cL_law 561 = .ok (.pop, 1) := fq1_87 (fl_8 (j := 49) rfl rfl)
theorem dL_law_562 : decode cL_law 562 = .ok (.aload_n 2, 1) := fq1_44 (fl_8 (j := 50) rfl rfl)
theorem dL_law_563 : decode cL_law 563 = .ok (.aload_n 0, 1) := fq1_42 (fl_8 (j := 51) rfl rfl)
theorem dL_law_564 : decode cL_law 564 = .ok (.iload_n 3, 1) := fq1_29 (fl_8 (j := 52) rfl rfl)
theorem dL_law_565 : decode cL_law 565 = .ok (.iconst 1, 1) := fq1_4 (fl_8 (j := 53) rfl rfl)
theorem dL_law_566 : decode cL_law 566 = .ok (.iadd, 1) := fq1_96 (fl_8 (j := 54) rfl rfl)
theorem dL_law_567 : decode cL_law 567 = .ok (.iaload, 1) := fq1_46 (fl_8 (j := 55) rfl rfl)
theorem dL_law_568 : decode cL_law 568 = .ok (.aload_n 0, 1) := fq1_42 (fl_8 (j := 56) rfl rfl)
theorem dL_law_569 : decode cL_law 569 = .ok (.iload_n 3, 1) := fq1_29 (fl_8 (j := 57) rfl rfl)
theorem dL_law_570 : decode cL_law 570 = .ok (.iconst 2, 1) := fq1_5 (fl_8 (j := 58) rfl rfl)
theorem dL_law_571 : decode cL_law 571 = .ok (.iadd, 1) := fq1_96 (fl_8 (j := 59) rfl rfl)
theorem dL_law_572 : decode cL_law 572 = .ok (.iaload, 1) := fq1_46 (fl_8 (j := 60) rfl rfl)
theorem dL_law_573 : decode cL_law 573 = .ok (.aload_n 0, 1) := fq1_42 (fl_8 (j := 61) rfl rfl)
theorem dL_law_574 : decode cL_law 574 = .ok (.iload_n 3, 1) := fq1_29 (fl_8 (j := 62) rfl rfl)
theorem dL_law_575 : decode cL_law 575 = .ok (.iconst 3, 1) := fq1_6 (fl_8 (j := 63) rfl rfl)
theorem dL_law_576 : decode cL_law 576 = .ok (.iadd, 1) := fq1_96 (fl_9 (j := 0) rfl rfl)
theorem dL_law_577 : decode cL_law 577 = .ok (.iaload, 1) := fq1_46 (fl_9 (j := 1) rfl rfl)
theorem dL_law_578 : decode cL_law 578 = .ok (.aload_n 0, 1) := fq1_42 (fl_9 (j := 2) rfl rfl)
theorem dL_law_579 : decode cL_law 579 = .ok (.iload_n 3, 1) := fq1_29 (fl_9 (j := 3) rfl rfl)
theorem dL_law_580 : decode cL_law 580 = .ok (.iconst 4, 1) := fq1_7 (fl_9 (j := 4) rfl rfl)
theorem dL_law_581 : decode cL_law 581 = .ok (.iadd, 1) := fq1_96 (fl_9 (j := 5) rfl rfl)
theorem dL_law_582 : decode cL_law 582 = .ok (.iaload, 1) := fq1_46 (fl_9 (j := 6) rfl rfl)
theorem dL_law_583 : decode cL_law 583 = .ok (.aload_n 0, 1) := fq1_42 (fl_9 (j := 7) rfl rfl)
theorem dL_law_584 : decode cL_law 584 = .ok (.iload_n 3, 1) := fq1_29 (fl_9 (j := 8) rfl rfl)
theorem dL_law_585 : decode cL_law 585 = .ok (.iconst 5, 1) := fq1_8 (fl_9 (j := 9) rfl rfl)
theorem dL_law_586 : decode cL_law 586 = .ok (.iadd, 1) := fq1_96 (fl_9 (j := 10) rfl rfl)
theorem dL_law_587 : decode cL_law 587 = .ok (.iaload, 1) := fq1_46 (fl_9 (j := 11) rfl rfl)
theorem dL_law_588 : decode cL_law 588 = .ok (.invokevirtual 48, 3) := fq3_182 (fl_9 (j := 12) rfl rfl) (fl_9 (j := 13) rfl rfl) (fl_9 (j := 14) rfl rfl) rfl
theorem dL_law_591 : decode cL_law 591 = .ok (.pop, 1) := fq1_87 (fl_9 (j := 15) rfl rfl)
theorem dL_law_592 : decode cL_law 592 = .ok (.goto 2254, 3) := fq3_167 (fl_9 (j := 16) rfl rfl) (fl_9 (j := 17) rfl rfl) (fl_9 (j := 18) rfl rfl) (s2p rfl (bl rfl))
theorem dL_law_595 : decode cL_law 595 = .ok (.aload_n 1, 1) := fq1_43 (fl_9 (j := 19) rfl rfl)
theorem dL_law_596 : decode cL_law 596 = .ok (.aload_n 0, 1) := fq1_42 (fl_9 (j := 20) rfl rfl)
theorem dL_law_597 : decode cL_law 597 = .ok (.iload_n 3, 1) := fq1_29 (fl_9 (j := 21) rfl rfl)
theorem dL_law_598 : decode cL_law 598 = .ok (.iconst 1, 1) := fq1_4 (fl_9 (j := 22) rfl rfl)
theorem dL_law_599 : decode cL_law 599 = .ok (.iadd, 1) := fq1_96 (fl_9 (j := 23) rfl rfl)
theorem dL_law_600 : decode cL_law 600 = .ok (.iaload, 1) := fq1_46 (fl_9 (j := 24) rfl rfl)
theorem dL_law_601 : decode cL_law 601 = .ok (.aload_n 0, 1) := fq1_42 (fl_9 (j := 25) rfl rfl)
theorem dL_law_602 : decode cL_law 602 = .ok (.iload_n 3, 1) := fq1_29 (fl_9 (j := 26) rfl rfl)
theorem dL_law_603 : decode cL_law 603 = .ok (.iconst 2, 1) := fq1_5 (fl_9 (j := 27) rfl rfl)
theorem dL_law_604 : decode cL_law 604 = .ok (.iadd, 1) := fq1_96 (fl_9 (j := 28) rfl rfl)
theorem dL_law_605 : decode cL_law 605 = .ok (.iaload, 1) := fq1_46 (fl_9 (j := 29) rfl rfl)
theorem dL_law_606 : decode cL_law 606 = .ok (.aload_n 0, 1) := fq1_42 (fl_9 (j := 30) rfl rfl)
theorem dL_law_607 : decode cL_law 607 = .ok (.iload_n 3, 1) := fq1_29 (fl_9 (j := 31) rfl rfl)
theorem dL_law_608 : decode cL_law 608 = .ok (.iconst 3, 1) := fq1_6 (fl_9 (j := 32) rfl rfl)
theorem dL_law_609 : decode cL_law 609 = .ok (.iadd, 1) := fq1_96 (fl_9 (j := 33) rfl rfl)
theorem dL_law_610 : decode cL_law 610 = .ok (.iaload, 1) := fq1_46 (fl_9 (j := 34) rfl rfl)
theorem dL_law_611 : decode cL_law 611 = .ok (.aload_n 0, 1) := fq1_42 (fl_9 (j := 35) rfl rfl)
theorem dL_law_612 : decode cL_law 612 = .ok (.iload_n 3, 1) := fq1_29 (fl_9 (j := 36) rfl rfl)
theorem dL_law_613 : decode cL_law 613 = .ok (.iconst 4, 1) := fq1_7 (fl_9 (j := 37) rfl rfl)
theorem dL_law_614 : decode cL_law 614 = .ok (.iadd, 1) := fq1_96 (fl_9 (j := 38) rfl rfl)
theorem dL_law_615 : decode cL_law 615 = .ok (.iaload, 1) := fq1_46 (fl_9 (j := 39) rfl rfl)
theorem dL_law_616 : decode cL_law 616 = .ok (.aload_n 0, 1) := fq1_42 (fl_9 (j := 40) rfl rfl)
theorem dL_law_617 : decode cL_law 617 = .ok (.iload_n 3, 1) := fq1_29 (fl_9 (j := 41) rfl rfl)
theorem dL_law_618 : decode cL_law 618 = .ok (.iconst 5, 1) := fq1_8 (fl_9 (j := 42) rfl rfl)
theorem dL_law_619 : decode cL_law 619 = .ok (.iadd, 1) := fq1_96 (fl_9 (j := 43) rfl rfl)
theorem dL_law_620 : decode cL_law 620 = .ok (.iaload, 1) := fq1_46 (fl_9 (j := 44) rfl rfl)
theorem dL_law_621 : decode cL_law 621 = .ok (.invokevirtual 49, 3) := fq3_182 (fl_9 (j := 45) rfl rfl) (fl_9 (j := 46) rfl rfl) (fl_9 (j := 47) rfl rfl) rfl
theorem dL_law_624 : decode cL_law 624 = .ok (.pop, 1) := fq1_87 (fl_9 (j := 48) rfl rfl)
theorem dL_law_625 : decode cL_law 625 = .ok (.aload_n 2, 1) := fq1_44 (fl_9 (j := 49) rfl rfl)
theorem dL_law_626 : decode cL_law 626 = .ok (.aload_n 0, 1) := fq1_42 (fl_9 (j := 50) rfl rfl)
theorem dL_law_627 : decode cL_law 627 = .ok (.iload_n 3, 1) := fq1_29 (fl_9 (j := 51) rfl rfl)
theorem dL_law_628 : decode cL_law 628 = .ok (.iconst 1, 1) := fq1_4 (fl_9 (j := 52) rfl rfl)
theorem dL_law_629 : decode cL_law 629 = .ok (.iadd, 1) := fq1_96 (fl_9 (j := 53) rfl rfl)
theorem dL_law_630 : decode cL_law 630 = .ok (.iaload, 1) := fq1_46 (fl_9 (j := 54) rfl rfl)
theorem dL_law_631 : decode cL_law 631 = .ok (.aload_n 0, 1) := fq1_42 (fl_9 (j := 55) rfl rfl)
theorem dL_law_632 : decode cL_law 632 = .ok (.iload_n 3, 1) := fq1_29 (fl_9 (j := 56) rfl rfl)
theorem dL_law_633 : decode cL_law 633 = .ok (.iconst 2, 1) := fq1_5 (fl_9 (j := 57) rfl rfl)
theorem dL_law_634 : decode cL_law 634 = .ok (.iadd, 1) := fq1_96 (fl_9 (j := 58) rfl rfl)
theorem dL_law_635 : decode cL_law 635 = .ok (.iaload, 1) := fq1_46 (fl_9 (j := 59) rfl rfl)
theorem dL_law_636 : decode cL_law 636 = .ok (.aload_n 0, 1) := fq1_42 (fl_9 (j := 60) rfl rfl)
theorem dL_law_637 : decode cL_law 637 = .ok (.iload_n 3, 1) := fq1_29 (fl_9 (j := 61) rfl rfl)
theorem dL_law_638 : decode cL_law 638 = .ok (.iconst 3, 1) := fq1_6 (fl_9 (j := 62) rfl rfl)
theorem dL_law_639 : decode cL_law 639 = .ok (.iadd, 1) := fq1_96 (fl_9 (j := 63) rfl rfl)
theorem dL_law_640 : decode cL_law 640 = .ok (.iaload, 1) := fq1_46 (fl_10 (j := 0) rfl rfl)
theorem dL_law_641 : decode cL_law 641 = .ok (.aload_n 0, 1) := fq1_42 (fl_10 (j := 1) rfl rfl)
theorem dL_law_642 : decode cL_law 642 = .ok (.iload_n 3, 1) := fq1_29 (fl_10 (j := 2) rfl rfl)
theorem dL_law_643 : decode cL_law 643 = .ok (.iconst 4, 1) := fq1_7 (fl_10 (j := 3) rfl rfl)
theorem dL_law_644 : decode cL_law 644 = .ok (.iadd, 1) := fq1_96 (fl_10 (j := 4) rfl rfl)
theorem dL_law_645 : decode cL_law 645 = .ok (.iaload, 1) := fq1_46 (fl_10 (j := 5) rfl rfl)
theorem dL_law_646 : decode cL_law 646 = .ok (.aload_n 0, 1) := fq1_42 (fl_10 (j := 6) rfl rfl)
theorem dL_law_647 : decode cL_law 647 = .ok (.iload_n 3, 1) := fq1_29 (fl_10 (j := 7) rfl rfl)
theorem dL_law_648 : decode cL_law 648 = .ok (.iconst 5, 1) := fq1_8 (fl_10 (j := 8) rfl rfl)
theorem dL_law_649 : decode cL_law 649 = .ok (.iadd, 1) := fq1_96 (fl_10 (j := 9) rfl rfl)
theorem dL_law_650 : decode cL_law 650 = .ok (.iaload, 1) := fq1_46 (fl_10 (j := 10) rfl rfl)
theorem dL_law_651 : decode cL_law 651 = .ok (.invokevirtual 53, 3) := fq3_182 (fl_10 (j := 11) rfl rfl) (fl_10 (j := 12) rfl rfl) (fl_10 (j := 13) rfl rfl) rfl
theorem dL_law_654 : decode cL_law 654 = .ok (.pop, 1) := fq1_87 (fl_10 (j := 14) rfl rfl)
theorem dL_law_655 : decode cL_law 655 = .ok (.goto 2191, 3) := fq3_167 (fl_10 (j := 15) rfl rfl) (fl_10 (j := 16) rfl rfl) (fl_10 (j := 17) rfl rfl) (s2p rfl (bl rfl))
end

section
set_option maxHeartbeats 40000000 in
set_option maxRecDepth 100000 in
theorem law_c0 {p : Program} {e : Env} {s : State} {m : MethodId} {below : List Frame} {meth : Method} {c : Code} (l : Launch) {b L : Nat} {xs : Nat → Int32} {A : Nat → Prop} {D : va_G} {k : Nat → ClassId} {sa sv : Nat} {i : Int} (C : LFX p s m meth c b L xs A D k sa sv) (hi : 0 ≤ i ∧ i + 6 ≤ (L : Int)) (hk : LAT p l e s m below meth c b A D k 2846 i) : LAT p l e s m below meth c b A D k 344 i := by
  obtain ⟨hx, hb, hr, hml, hown, hts, hKK, hX, hbl, hbA, hA, hAf, hlocks, hSY, hRR, hL⟩ := id C
  intro a IA LA FA QA VA IB LB FB QB VB IC LC FC QC VC ID LD FD QD VD IR LR FR QR VR r H locs ls hI hRT hP hD hS hl
  have hK := hKK.1
  obtain ⟨hP, hD⟩ : PD D A ((GA k a IA LA FA QA VA r) ++ ((GB k a IB LB FB QB VB r) ++ ((GC k a IC LC FC QC VC r) ++ ((GD k a ID LD FD QD VD r) ++ ((GR k a IR LR FR QR VR r) ++ (r.tl)))))) H := ⟨hP, hD⟩
  obtain ⟨hWI, hWI_0, hWI_1, hWI_2, hrd, htr0, htr1, htr2, htr3, hrgk, hrgt, hdrc, hev, hmk, hM, hMK, hTI, hFS, htd, hlt, rgH, rgS, rgY, hdr, hit, hmmk, heq, htq, hrel, hbf, htb, hkw, hSK, hSK0, hSK1, hSK2, hNE, hNE0, hNE1, hNE2, hLE, hYE, hQE, hLE0, hLE1, hLE2, hYE0, hYE1, hYE2⟩ := id hI
  obtain ⟨gw1, gw2, gw3, gw4, gw5, gw6, gw7, gw8, gw9, gw10, gw11⟩ := id hWI
  have hx0 := gw9
  have hYI := gw11
  have hpf : rgI (FR 3) (-128) 127 900 := fun e h1 h2 => by rw [← htb e h1 h2]; exact hbf e h1 h2
  obtain ⟨z1, hz1, hz1a, hz1b⟩ := i32_z (xs (iZ (i + 1)).toNatClampNeg)
  obtain ⟨z2, hz2, hz2a, hz2b⟩ := i32_z (xs (iZ (i + 2)).toNatClampNeg)
  obtain ⟨z3, hz3, hz3a, hz3b⟩ := i32_z (xs (iZ (i + 3)).toNatClampNeg)
  obtain ⟨z4, hz4, hz4a, hz4b⟩ := i32_z (xs (iZ (i + 4)).toNatClampNeg)
  obtain ⟨z5, hz5, hz5a, hz5b⟩ := i32_z (xs (iZ (i + 5)).toNatClampNeg)
  have hl : lv_has ls 4 [(3, .int (iZ i)), (2, .ref (a 106)), (1, .ref (a 0)), (0, .ref b)] := hl
  have hls := hQE.1
  replace hls : _ := hls
  refine lv_aload_n hx hb dL_law_344 rfl (lv_at hl 2 rfl) ?_
  refine CKV2 (As := []) (rest := []) (tl := (GB k a IB LB FB QB VB r) ++ ((GC k a IC LC FC QC VC r) ++ ((GD k a ID LD FD QD VD r) ++ ((GR k a IR LR FR QR VR r) ++ (r.tl))))) hx hb hml hown hts hKK hP hD hS hA (k_status l D k (a 0) (a 1) (a 2) (a 3) (a 4) (a 5) (a 6) (a 7) (a 8) (a 9) (a 10) (a 11) (IA 0) (IA 1) (IA 2) (LA 0) (LA 1)) ci_X11_status qm_L_13 ⟨Nat.le_of_ble_eq_true rfl, Nat.le_of_ble_eq_true rfl⟩ (lroom _) [0] [1, 2, 3, 4, 5, 6, 7, 8, 9, 10, 11, 12, 13, 14, 15, 16, 17, 18, 19, 20, 21, 22, 23, 24, 25] rfl rfl rfl (by decide +kernel) (by decide +kernel) (by decide +kernel) 0 rfl rfl rfl hl.1 rfl (Nat.le_of_ble_eq_true rfl) dL_law_345 (fun u_1 H locs hφ hP hD hS => ?_)
  obtain ⟨hP, hD⟩ := PD.by3 (is := [25, 0, 1, 2, 3, 4, 5, 6, 7, 8, 9, 10, 11, 12, 13, 14, 15, 16, 17, 18, 19, 20, 21, 22, 23, 24]) (y := (GA k a IA LA FA QA VA r)) ⟨hP, hD⟩ (by decide +kernel) rfl rfl
  refine W.eq (g2 := F0 m 348 ls [.int (iZ (IA 2))]) rfl ?_
  refine lv_pop hx hb dL_law_348 rfl ?_
  refine lv_aload_n hx hb dL_law_349 rfl (lv_at hl 1 rfl) ?_
  obtain ⟨hP, hD⟩ := PD.fr5 ⟨hP, hD⟩
  refine CKV2 (As := []) (rest := []) (tl := (GA k a IA LA FA QA VA r) ++ ((GB k a IB LB FB QB VB r) ++ ((GC k a IC LC FC QC VC r) ++ ((GD k a ID LD FD QD VD r) ++ (r.tl))))) hx hb hml hown hts hKK hP hD hS hA (m_status l D k (a 106) (a 107) (a 108) (a 109) (a 110) (a 111) (a 112) (a 113) (a 114) (a 115) (a 116) (a 117) (a 118) (a 119) (a 120) (a 121) (a 122) (IR 0) (IR 1) (IR 2) (IR 3) (IR 4) (IR 5) (IR 6) (IR 7) (IR 8) (IR 9) (IR 10) (IR 11) (IR 12) (IR 13) (IR 14) (IR 15) (IR 16) (IR 17) (LR 0) (LR 1)) ci_X12_status qm_L_17 ⟨Nat.le_of_ble_eq_true rfl, Nat.le_of_ble_eq_true rfl⟩ (lroom _) [0] [1, 2, 3, 4, 5, 6, 7, 8, 9, 10, 11, 12, 13, 14, 15, 16] rfl rfl rfl (by decide +kernel) (by decide +kernel) (by decide +kernel) 0 rfl rfl rfl hl.1 rfl (Nat.le_of_ble_eq_true rfl) dL_law_350 (fun u_2 H locs hφ hP hD hS => ?_)
  obtain ⟨hP, hD⟩ := PD.by3 (is := [16, 0, 1, 2, 3, 4, 5, 6, 7, 8, 9, 10, 11, 12, 13, 14, 15]) (y := (GR k a IR LR FR QR VR r)) ⟨hP, hD⟩ (by decide +kernel) rfl rfl
  refine W.eq (g2 := F0 m 353 ls [.int (iZ (IR 0))]) rfl ?_
  refine lv_pop hx hb dL_law_353 rfl ?_
  refine lv_goto (tgt := 2846) hx hb dL_law_354 rfl ?_
  obtain ⟨hP, hD⟩ := PD.fr5 ⟨hP, hD⟩
  obtain ⟨hP, hD⟩ := PD.fr5 ⟨hP, hD⟩
  obtain ⟨hP, hD⟩ := PD.fr5 ⟨hP, hD⟩
  obtain ⟨hP, hD⟩ := PD.fr5 ⟨hP, hD⟩
  exact hk a IA LA FA QA VA IB LB FB QB VB IC LC FC QC VC ID LD FD QD VD IR LR FR QR VR r H locs ls (show INV _ _ _ _ _ _ _ _ _ _ _ _ _ _ _ from ⟨hWI, hWI_0, hWI_1, hWI_2, hrd, htr0, htr1, htr2, htr3, hrgk, hrgt, hdrc, hev, hmk, hM, hMK, hTI, hFS, htd, hlt, rgH, rgS, rgY, hdr, hit, hmmk, heq, htq, hrel, hbf, htb, hkw, hSK, hSK0, hSK1, hSK2, hNE, hNE0, hNE1, hNE2, hLE, hYE, hQE, hLE0, hLE1, hLE2, hYE0, hYE1, hYE2⟩) hRT hP hD hS (lv_sub hl [0, 1, 2, 3] rfl)
set_option maxHeartbeats 40000000 in
set_option maxRecDepth 100000 in
theorem law_c1 {p : Program} {e : Env} {s : State} {m : MethodId} {below : List Frame} {meth : Method} {c : Code} (l : Launch) {b L : Nat} {xs : Nat → Int32} {A : Nat → Prop} {D : va_G} {k : Nat → ClassId} {sa sv : Nat} {i : Int} (C : LFX p s m meth c b L xs A D k sa sv) (hi : 0 ≤ i ∧ i + 6 ≤ (L : Int)) (hk : LAT p l e s m below meth c b A D k 2846 i) : LAT p l e s m below meth c b A D k 357 i := by
  obtain ⟨hx, hb, hr, hml, hown, hts, hKK, hX, hbl, hbA, hA, hAf, hlocks, hSY, hRR, hL⟩ := id C
  intro a IA LA FA QA VA IB LB FB QB VB IC LC FC QC VC ID LD FD QD VD IR LR FR QR VR r H locs ls hI hRT hP hD hS hl
  have hK := hKK.1
  obtain ⟨hP, hD⟩ : PD D A ((GA k a IA LA FA QA VA r) ++ ((GB k a IB LB FB QB VB r) ++ ((GC k a IC LC FC QC VC r) ++ ((GD k a ID LD FD QD VD r) ++ ((GR k a IR LR FR QR VR r) ++ (r.tl)))))) H := ⟨hP, hD⟩
  obtain ⟨hWI, hWI_0, hWI_1, hWI_2, hrd, htr0, htr1, htr2, htr3, hrgk, hrgt, hdrc, hev, hmk, hM, hMK, hTI, hFS, htd, hlt, rgH, rgS, rgY, hdr, hit, hmmk, heq, htq, hrel, hbf, htb, hkw, hSK, hSK0, hSK1, hSK2, hNE, hNE0, hNE1, hNE2, hLE, hYE, hQE, hLE0, hLE1, hLE2, hYE0, hYE1, hYE2⟩ := id hI
  obtain ⟨gw1, gw2, gw3, gw4, gw5, gw6, gw7, gw8, gw9, gw10, gw11⟩ := id hWI
  have hx0 := gw9
  have hYI := gw11
  have hpf : rgI (FR 3) (-128) 127 900 := fun e h1 h2 => by rw [← htb e h1 h2]; exact hbf e h1 h2
  obtain ⟨z1, hz1, hz1a, hz1b⟩ := i32_z (xs (iZ (i + 1)).toNatClampNeg)
  obtain ⟨z2, hz2, hz2a, hz2b⟩ := i32_z (xs (iZ (i + 2)).toNatClampNeg)
  obtain ⟨z3, hz3, hz3a, hz3b⟩ := i32_z (xs (iZ (i + 3)).toNatClampNeg)
  obtain ⟨z4, hz4, hz4a, hz4b⟩ := i32_z (xs (iZ (i + 4)).toNatClampNeg)
  obtain ⟨z5, hz5, hz5a, hz5b⟩ := i32_z (xs (iZ (i + 5)).toNatClampNeg)
  have hl : lv_has ls 4 [(3, .int (iZ i)), (2, .ref (a 106)), (1, .ref (a 0)), (0, .ref b)] := hl
  have hls := hQE.1
  replace hls : _ := hls
  refine lv_aload_n hx hb dL_law_357 rfl (lv_at hl 2 rfl) ?_
  refine CKV2 (As := []) (rest := []) (tl := (GB k a IB LB FB QB VB r) ++ ((GC k a IC LC FC QC VC r) ++ ((GD k a ID LD FD QD VD r) ++ ((GR k a IR LR FR QR VR r) ++ (r.tl))))) hx hb hml hown hts hKK hP hD hS hA (k_top l D k (a 0) (a 1) (a 2) (a 3) (a 4) (a 5) (a 6) (a 7) (a 8) (a 9) (a 10) (a 11) (IA 0) (IA 1) (IA 2) (LA 0) (LA 1)) ci_X11_top qm_L_18 ⟨Nat.le_of_ble_eq_true rfl, Nat.le_of_ble_eq_true rfl⟩ (lroom _) [0] [1, 2, 3, 4, 5, 6, 7, 8, 9, 10, 11, 12, 13, 14, 15, 16, 17, 18, 19, 20, 21, 22, 23, 24, 25] rfl rfl rfl (by decide +kernel) (by decide +kernel) (by decide +kernel) 0 rfl rfl rfl hl.1 rfl (Nat.le_of_ble_eq_true rfl) dL_law_358 (fun u_1 H locs hφ hP hD hS => ?_)
  obtain ⟨hP, hD⟩ := PD.by3 (is := [25, 0, 1, 2, 3, 4, 5, 6, 7, 8, 9, 10, 11, 12, 13, 14, 15, 16, 17, 18, 19, 20, 21, 22, 23, 24]) (y := (GA k a IA LA FA QA VA r)) ⟨hP, hD⟩ (by decide +kernel) rfl rfl
  refine W.eq (g2 := F0 m 361 ls [.long u_1.2.1]) rfl ?_
  refine lv_pop2_2 hx hb dL_law_361 rfl ?_
  refine lv_aload_n hx hb dL_law_362 rfl (lv_at hl 1 rfl) ?_
  obtain ⟨hP, hD⟩ := PD.fr5 ⟨hP, hD⟩
  refine CKV2 (As := []) (rest := []) (tl := (GA k a IA LA FA QA VA r) ++ ((GB k a IB LB FB QB VB r) ++ ((GC k a IC LC FC QC VC r) ++ ((GD k a ID LD FD QD VD r) ++ (r.tl))))) hx hb hml hown hts hKK hP hD hS hA (m_top l D k (a 106) (a 107) (a 108) (a 109) (a 110) (a 111) (a 112) (a 113) (a 114) (a 115) (a 116) (a 117) (a 118) (a 119) (a 120) (a 121) (a 122) (IR 0) (IR 1) (IR 2) (IR 3) (IR 4) (IR 5) (IR 6) (IR 7) (IR 8) (IR 9) (IR 10) (IR 11) (IR 12) (IR 13) (IR 14) (IR 15) (IR 16) (IR 17) (LR 0) (LR 1)) ci_X12_top qm_L_22 ⟨Nat.le_of_ble_eq_true rfl, Nat.le_of_ble_eq_true rfl⟩ (lroom _) [0] [1, 2, 3, 4, 5, 6, 7, 8, 9, 10, 11, 12, 13, 14, 15, 16] rfl rfl rfl (by decide +kernel) (by decide +kernel) (by decide +kernel) 0 rfl rfl rfl hl.1 rfl (Nat.le_of_ble_eq_true rfl) dL_law_363 (fun u_2 H locs hφ hP hD hS => ?_)
  obtain ⟨hP, hD⟩ := PD.by3 (is := [16, 0, 1, 2, 3, 4, 5, 6, 7, 8, 9, 10, 11, 12, 13, 14, 15]) (y := (GR k a IR LR FR QR VR r)) ⟨hP, hD⟩ (by decide +kernel) rfl rfl
  refine W.eq (g2 := F0 m 366 ls [.long u_2.2.1]) rfl ?_
  refine lv_pop2_2 hx hb dL_law_366 rfl ?_
  refine lv_goto (tgt := 2846) hx hb dL_law_367 rfl ?_
  obtain ⟨hP, hD⟩ := PD.fr5 ⟨hP, hD⟩
  obtain ⟨hP, hD⟩ := PD.fr5 ⟨hP, hD⟩
  obtain ⟨hP, hD⟩ := PD.fr5 ⟨hP, hD⟩
  obtain ⟨hP, hD⟩ := PD.fr5 ⟨hP, hD⟩
  exact hk a IA LA FA QA VA IB LB FB QB VB IC LC FC QC VC ID LD FD QD VD IR LR FR QR VR r H locs ls (show INV _ _ _ _ _ _ _ _ _ _ _ _ _ _ _ from ⟨hWI, hWI_0, hWI_1, hWI_2, hrd, htr0, htr1, htr2, htr3, hrgk, hrgt, hdrc, hev, hmk, hM, hMK, hTI, hFS, htd, hlt, rgH, rgS, rgY, hdr, hit, hmmk, heq, htq, hrel, hbf, htb, hkw, hSK, hSK0, hSK1, hSK2, hNE, hNE0, hNE1, hNE2, hLE, hYE, hQE, hLE0, hLE1, hLE2, hYE0, hYE1, hYE2⟩) hRT hP hD hS (lv_sub hl [0, 1, 2, 3] rfl)
set_option maxHeartbeats 40000000 in
set_option maxRecDepth 100000 in
theorem law_c2 {p : Program} {e : Env} {s : State} {m : MethodId} {below : List Frame} {meth : Method} {c : Code} (l : Launch) {b L : Nat} {xs : Nat → Int32} {A : Nat → Prop} {D : va_G} {k : Nat → ClassId} {sa sv : Nat} {i : Int} (C : LFX p s m meth c b L xs A D k sa sv) (hi : 0 ≤ i ∧ i + 6 ≤ (L : Int)) (hk : LAT p l e s m below meth c b A D k 2846 i) : LAT p l e s m below meth c b A D k 370 i := by
  obtain ⟨hx, hb, hr, hml, hown, hts, hKK, hX, hbl, hbA, hA, hAf, hlocks, hSY, hRR, hL⟩ := id C
  intro a IA LA FA QA VA IB LB FB QB VB IC LC FC QC VC ID LD FD QD VD IR LR FR QR VR r H locs ls hI hRT hP hD hS hl
  have hK := hKK.1
  obtain ⟨hP, hD⟩ : PD D A ((GA k a IA LA FA QA VA r) ++ ((GB k a IB LB FB QB VB r) ++ ((GC k a IC LC FC QC VC r) ++ ((GD k a ID LD FD QD VD r) ++ ((GR k a IR LR FR QR VR r) ++ (r.tl)))))) H := ⟨hP, hD⟩
  obtain ⟨hWI, hWI_0, hWI_1, hWI_2, hrd, htr0, htr1, htr2, htr3, hrgk, hrgt, hdrc, hev, hmk, hM, hMK, hTI, hFS, htd, hlt, rgH, rgS, rgY, hdr, hit, hmmk, heq, htq, hrel, hbf, htb, hkw, hSK, hSK0, hSK1, hSK2, hNE, hNE0, hNE1, hNE2, hLE, hYE, hQE, hLE0, hLE1, hLE2, hYE0, hYE1, hYE2⟩ := id hI
  obtain ⟨gw1, gw2, gw3, gw4, gw5, gw6, gw7, gw8, gw9, gw10, gw11⟩ := id hWI
  have hx0 := gw9
  have hYI := gw11
  have hpf : rgI (FR 3) (-128) 127 900 := fun e h1 h2 => by rw [← htb e h1 h2]; exact hbf e h1 h2
  obtain ⟨z1, hz1, hz1a, hz1b⟩ := i32_z (xs (iZ (i + 1)).toNatClampNeg)
  obtain ⟨z2, hz2, hz2a, hz2b⟩ := i32_z (xs (iZ (i + 2)).toNatClampNeg)
  obtain ⟨z3, hz3, hz3a, hz3b⟩ := i32_z (xs (iZ (i + 3)).toNatClampNeg)
  obtain ⟨z4, hz4, hz4a, hz4b⟩ := i32_z (xs (iZ (i + 4)).toNatClampNeg)
  obtain ⟨z5, hz5, hz5a, hz5b⟩ := i32_z (xs (iZ (i + 5)).toNatClampNeg)
  have hl : lv_has ls 4 [(3, .int (iZ i)), (2, .ref (a 106)), (1, .ref (a 0)), (0, .ref b)] := hl
  have hls := hQE.1
  replace hls : _ := hls
  refine lv_aload_n hx hb dL_law_370 rfl (lv_at hl 2 rfl) ?_
  refine CKV2 (As := []) (rest := []) (tl := (GB k a IB LB FB QB VB r) ++ ((GC k a IC LC FC QC VC r) ++ ((GD k a ID LD FD QD VD r) ++ ((GR k a IR LR FR QR VR r) ++ (r.tl))))) hx hb hml hown hts hKK hP hD hS hA (k_bottom l D k (a 0) (a 1) (a 2) (a 3) (a 4) (a 5) (a 6) (a 7) (a 8) (a 9) (a 10) (a 11) (IA 0) (IA 1) (IA 2) (LA 0) (LA 1)) ci_X11_bottom qm_L_23 ⟨Nat.le_of_ble_eq_true rfl, Nat.le_of_ble_eq_true rfl⟩ (lroom _) [0] [1, 2, 3, 4, 5, 6, 7, 8, 9, 10, 11, 12, 13, 14, 15, 16, 17, 18, 19, 20, 21, 22, 23, 24, 25] rfl rfl rfl (by decide +kernel) (by decide +kernel) (by decide +kernel) 0 rfl rfl rfl hl.1 rfl (Nat.le_of_ble_eq_true rfl) dL_law_371 (fun u_1 H locs hφ hP hD hS => ?_)
  obtain ⟨hP, hD⟩ := PD.by3 (is := [25, 0, 1, 2, 3, 4, 5, 6, 7, 8, 9, 10, 11, 12, 13, 14, 15, 16, 17, 18, 19, 20, 21, 22, 23, 24]) (y := (GA k a IA LA FA QA VA r)) ⟨hP, hD⟩ (by decide +kernel) rfl rfl
  refine W.eq (g2 := F0 m 374 ls [.long u_1.2.1]) rfl ?_
  refine lv_pop2_2 hx hb dL_law_374 rfl ?_
  refine lv_aload_n hx hb dL_law_375 rfl (lv_at hl 1 rfl) ?_
  obtain ⟨hP, hD⟩ := PD.fr5 ⟨hP, hD⟩
  refine CKV2 (As := []) (rest := []) (tl := (GA k a IA LA FA QA VA r) ++ ((GB k a IB LB FB QB VB r) ++ ((GC k a IC LC FC QC VC r) ++ ((GD k a ID LD FD QD VD r) ++ (r.tl))))) hx hb hml hown hts hKK hP hD hS hA (m_bottom l D k (a 106) (a 107) (a 108) (a 109) (a 110) (a 111) (a 112) (a 113) (a 114) (a 115) (a 116) (a 117) (a 118) (a 119) (a 120) (a 121) (a 122) (IR 0) (IR 1) (IR 2) (IR 3) (IR 4) (IR 5) (IR 6) (IR 7) (IR 8) (IR 9) (IR 10) (IR 11) (IR 12) (IR 13) (IR 14) (IR 15) (IR 16) (IR 17) (LR 0) (LR 1)) ci_X12_bottom qm_L_26 ⟨Nat.le_of_ble_eq_true rfl, Nat.le_of_ble_eq_true rfl⟩ (lroom _) [0] [1, 2, 3, 4, 5, 6, 7, 8, 9, 10, 11, 12, 13, 14, 15, 16] rfl rfl rfl (by decide +kernel) (by decide +kernel) (by decide +kernel) 0 rfl rfl rfl hl.1 rfl (Nat.le_of_ble_eq_true rfl) dL_law_376 (fun u_2 H locs hφ hP hD hS => ?_)
  obtain ⟨hP, hD⟩ := PD.by3 (is := [16, 0, 1, 2, 3, 4, 5, 6, 7, 8, 9, 10, 11, 12, 13, 14, 15]) (y := (GR k a IR LR FR QR VR r)) ⟨hP, hD⟩ (by decide +kernel) rfl rfl
  refine W.eq (g2 := F0 m 379 ls [.long u_2.2.1]) rfl ?_
  refine lv_pop2_2 hx hb dL_law_379 rfl ?_
  refine lv_goto (tgt := 2846) hx hb dL_law_380 rfl ?_
  obtain ⟨hP, hD⟩ := PD.fr5 ⟨hP, hD⟩
  obtain ⟨hP, hD⟩ := PD.fr5 ⟨hP, hD⟩
  obtain ⟨hP, hD⟩ := PD.fr5 ⟨hP, hD⟩
  obtain ⟨hP, hD⟩ := PD.fr5 ⟨hP, hD⟩
  exact hk a IA LA FA QA VA IB LB FB QB VB IC LC FC QC VC ID LD FD QD VD IR LR FR QR VR r H locs ls (show INV _ _ _ _ _ _ _ _ _ _ _ _ _ _ _ from ⟨hWI, hWI_0, hWI_1, hWI_2, hrd, htr0, htr1, htr2, htr3, hrgk, hrgt, hdrc, hev, hmk, hM, hMK, hTI, hFS, htd, hlt, rgH, rgS, rgY, hdr, hit, hmmk, heq, htq, hrel, hbf, htb, hkw, hSK, hSK0, hSK1, hSK2, hNE, hNE0, hNE1, hNE2, hLE, hYE, hQE, hLE0, hLE1, hLE2, hYE0, hYE1, hYE2⟩) hRT hP hD hS (lv_sub hl [0, 1, 2, 3] rfl)
set_option maxHeartbeats 40000000 in
set_option maxRecDepth 100000 in
theorem law_c3 {p : Program} {e : Env} {s : State} {m : MethodId} {below : List Frame} {meth : Method} {c : Code} (l : Launch) {b L : Nat} {xs : Nat → Int32} {A : Nat → Prop} {D : va_G} {k : Nat → ClassId} {sa sv : Nat} {i : Int} (C : LFX p s m meth c b L xs A D k sa sv) (hi : 0 ≤ i ∧ i + 6 ≤ (L : Int)) (hk : LAT p l e s m below meth c b A D k 2846 i) : LAT p l e s m below meth c b A D k 383 i := by
  obtain ⟨hx, hb, hr, hml, hown, hts, hKK, hX, hbl, hbA, hA, hAf, hlocks, hSY, hRR, hL⟩ := id C
  intro a IA LA FA QA VA IB LB FB QB VB IC LC FC QC VC ID LD FD QD VD IR LR FR QR VR r H locs ls hI hRT hP hD hS hl
  have hK := hKK.1
  obtain ⟨hP, hD⟩ : PD D A ((GA k a IA LA FA QA VA r) ++ ((GB k a IB LB FB QB VB r) ++ ((GC k a IC LC FC QC VC r) ++ ((GD k a ID LD FD QD VD r) ++ ((GR k a IR LR FR QR VR r) ++ (r.tl)))))) H := ⟨hP, hD⟩
  obtain ⟨hWI, hWI_0, hWI_1, hWI_2, hrd, htr0, htr1, htr2, htr3, hrgk, hrgt, hdrc, hev, hmk, hM, hMK, hTI, hFS, htd, hlt, rgH, rgS, rgY, hdr, hit, hmmk, heq, htq, hrel, hbf, htb, hkw, hSK, hSK0, hSK1, hSK2, hNE, hNE0, hNE1, hNE2, hLE, hYE, hQE, hLE0, hLE1, hLE2, hYE0, hYE1, hYE2⟩ := id hI
  obtain ⟨gw1, gw2, gw3, gw4, gw5, gw6, gw7, gw8, gw9, gw10, gw11⟩ := id hWI
  have hx0 := gw9
  have hYI := gw11
  have hpf : rgI (FR 3) (-128) 127 900 := fun e h1 h2 => by rw [← htb e h1 h2]; exact hbf e h1 h2
  obtain ⟨z1, hz1, hz1a, hz1b⟩ := i32_z (xs (iZ (i + 1)).toNatClampNeg)
  obtain ⟨z2, hz2, hz2a, hz2b⟩ := i32_z (xs (iZ (i + 2)).toNatClampNeg)
  obtain ⟨z3, hz3, hz3a, hz3b⟩ := i32_z (xs (iZ (i + 3)).toNatClampNeg)
  obtain ⟨z4, hz4, hz4a, hz4b⟩ := i32_z (xs (iZ (i + 4)).toNatClampNeg)
  obtain ⟨z5, hz5, hz5a, hz5b⟩ := i32_z (xs (iZ (i + 5)).toNatClampNeg)
  have hl : lv_has ls 4 [(3, .int (iZ i)), (2, .ref (a 106)), (1, .ref (a 0)), (0, .ref b)] := hl
  have hls := hQE.1
  replace hls : _ := hls
  refine lv_aload_n hx hb dL_law_383 rfl (lv_at hl 2 rfl) ?_
  refine lv_aload_n hx hb dL_law_384 rfl (lv_at hl 3 rfl) ?_
  refine lv_iload_n hx hb dL_law_385 rfl (lv_at hl 0 rfl) ?_
  refine lv_iconst (v := iZ 1) hx hb dL_law_386 rfl ?_
  refine lv_iadd hx hb dL_law_387 ?_
  refine lv_topi (fun x_1 ex_1 => ?_)
  obtain rfl : x_1 = iZ (i + 1) := ex_1.trans (iZ_add i 1)
  refine va_sld hx hb hX hbl hbA hS (zi1 hi hL) dL_law_388 ?_
  refine lv_topi (fun x_2 ex_2 => ?_)
  obtain rfl : x_2 = iZ z1 := ex_2.trans hz1
  refine lv_aload_n hx hb dL_law_389 rfl (lv_at hl 3 rfl) ?_
  refine lv_iload_n hx hb dL_law_390 rfl (lv_at hl 0 rfl) ?_
  refine lv_iconst (v := iZ 2) hx hb dL_law_391 rfl ?_
  refine lv_iadd hx hb dL_law_392 ?_
  refine lv_topi (fun x_3 ex_3 => ?_)
  obtain rfl : x_3 = iZ (i + 2) := ex_3.trans (iZ_add i 2)
  refine va_sld hx hb hX hbl hbA hS (zi2 hi hL) dL_law_393 ?_
  refine lv_topi (fun x_4 ex_4 => ?_)
  obtain rfl : x_4 = iZ z2 := ex_4.trans hz2
  refine lv_aload_n hx hb dL_law_394 rfl (lv_at hl 3 rfl) ?_
  refine lv_iload_n hx hb dL_law_395 rfl (lv_at hl 0 rfl) ?_
  refine lv_iconst (v := iZ 3) hx hb dL_law_396 rfl ?_
  refine lv_iadd hx hb dL_law_397 ?_
  refine lv_topi (fun x_5 ex_5 => ?_)
  obtain rfl : x_5 = iZ (i + 3) := ex_5.trans (iZ_add i 3)
  refine va_sld hx hb hX hbl hbA hS (zi3 hi hL) dL_law_398 ?_
  refine lv_topi (fun x_6 ex_6 => ?_)
  obtain rfl : x_6 = iZ z3 := ex_6.trans hz3
  obtain ⟨hP, hD⟩ := PD.swap ⟨hP, hD⟩
  obtain ⟨hP, hD⟩ := PD.swap ⟨hP, hD⟩
  obtain ⟨hP, hD⟩ := PD.sa2 ⟨hP, hD⟩
  refine CKV2 (As := [.int (iZ z1), .int (iZ z2), .int (iZ z3)]) (rest := []) (tl := (GC k a IC LC FC QC VC r) ++ ((GD k a ID LD FD QD VD r) ++ ((GR k a IR LR FR QR VR r) ++ (r.tl)))) hx hb hml hown hts hKK hP hD hS hA (p_tray l D k (a 0) (a 1) (a 2) (a 3) (a 4) (a 5) (a 6) (a 7) (a 8) (a 9) (a 10) (a 11) (IA 0) (IA 1) (IA 2) (LA 0) (LA 1) (fun i => some (a (12 + i))) (a 12) (a 13) (a 14) (a 15) (a 19) (a 20) (a 21) (a 22) (IB 0) (IB 2) (IB 4) (IB 6) (IB 1) (IB 3) (IB 5) (IB 7) (QB 0) (QB 1) (QB 2) (QB 3) z1 z2 z3 rfl rfl rfl rfl ⟨⟨by omega, by omega⟩, ⟨by omega, by omega⟩⟩ ⟨⟨by omega, by omega⟩, ⟨by omega, by omega⟩⟩ ⟨⟨by omega, by omega⟩, ⟨by omega, by omega⟩⟩ ⟨⟨by omega, by omega⟩, ⟨by omega, by omega⟩⟩ ⟨hz1a, hz1b⟩ ⟨hz2a, hz2b⟩ ⟨hz3a, hz3b⟩) ci_X11_tray qm_L_27 ⟨Nat.le_of_ble_eq_true rfl, Nat.le_of_ble_eq_true rfl⟩ (lroom _) [0, 26, 27, 28, 29, 30, 31, 32, 33, 34] [1, 2, 3, 4, 5, 6, 7, 8, 9, 10, 11, 12, 13, 14, 15, 16, 17, 18, 19, 20, 21, 22, 23, 24, 25] rfl rfl rfl (by decide +kernel) (by decide +kernel) (by decide +kernel) 0 rfl rfl rfl hl.1 rfl (Nat.le_of_ble_eq_true rfl) dL_law_399 (fun u_7 H locs hφ hP hD hS => ?_)
  obtain ⟨p_8, p_9, p_10, p_11, p_12, p_13, p_14, p_15, p_16⟩ : ((0 ≤ u_7.1.2.2.1 ∧ u_7.1.2.2.1 ≤ 3) ∧ (-1 ≤ u_7.1.2.2.2.2.2.2.1 ∧ u_7.1.2.2.2.2.2.2.1 ≤ 60)) ∧ ((0 ≤ u_7.1.2.2.2.1 ∧ u_7.1.2.2.2.1 ≤ 3) ∧ (-1 ≤ u_7.1.2.2.2.2.2.2.2.1 ∧ u_7.1.2.2.2.2.2.2.2.1 ≤ 60)) ∧ ((0 ≤ u_7.1.2.2.2.2.1 ∧ u_7.1.2.2.2.2.1 ≤ 3) ∧ (-1 ≤ u_7.1.2.2.2.2.2.2.2.2.1 ∧ u_7.1.2.2.2.2.2.2.2.2.1 ≤ 60)) ∧ ((0 ≤ u_7.1.2.2.2.2.2.1 ∧ u_7.1.2.2.2.2.2.1 ≤ 3) ∧ (-1 ≤ u_7.1.2.2.2.2.2.2.2.2.2 ∧ u_7.1.2.2.2.2.2.2.2.2.2 ≤ 60)) ∧ (((u_7.1.1 : Int) = 1 ∧ ((0 ≤ (z1 : Int) ∧ (z1 : Int) ≤ 3) ∧ (0 ≤ z2 ∧ z2 ≤ 3) ∧ (0 ≤ z3 ∧ z3 ≤ 60))) ∨ ((u_7.1.1 : Int) = 0 ∧ ¬ ((0 ≤ (z1 : Int) ∧ (z1 : Int) ≤ 3) ∧ (0 ≤ z2 ∧ z2 ≤ 3) ∧ (0 ≤ z3 ∧ z3 ≤ 60)))) ∧ ((((z1 : Int) = 0 ∧ ((0 ≤ (z1 : Int) ∧ (z1 : Int) ≤ 3) ∧ (0 ≤ z2 ∧ z2 ≤ 3) ∧ (0 ≤ z3 ∧ z3 ≤ 60))) ∧ u_7.1.2.2.1 = z2 ∧ u_7.1.2.2.2.2.2.2.1 = z3) ∨ (¬ ((z1 : Int) = 0 ∧ ((0 ≤ (z1 : Int) ∧ (z1 : Int) ≤ 3) ∧ (0 ≤ z2 ∧ z2 ≤ 3) ∧ (0 ≤ z3 ∧ z3 ≤ 60))) ∧ u_7.1.2.2.1 = (IB 0) ∧ u_7.1.2.2.2.2.2.2.1 = (IB 1))) ∧ ((((z1 : Int) = 1 ∧ ((0 ≤ (z1 : Int) ∧ (z1 : Int) ≤ 3) ∧ (0 ≤ z2 ∧ z2 ≤ 3) ∧ (0 ≤ z3 ∧ z3 ≤ 60))) ∧ u_7.1.2.2.2.1 = z2 ∧ u_7.1.2.2.2.2.2.2.2.1 = z3) ∨ (¬ ((z1 : Int) = 1 ∧ ((0 ≤ (z1 : Int) ∧ (z1 : Int) ≤ 3) ∧ (0 ≤ z2 ∧ z2 ≤ 3) ∧ (0 ≤ z3 ∧ z3 ≤ 60))) ∧ u_7.1.2.2.2.1 = (IB 2) ∧ u_7.1.2.2.2.2.2.2.2.1 = (IB 3))) ∧ ((((z1 : Int) = 2 ∧ ((0 ≤ (z1 : Int) ∧ (z1 : Int) ≤ 3) ∧ (0 ≤ z2 ∧ z2 ≤ 3) ∧ (0 ≤ z3 ∧ z3 ≤ 60))) ∧ u_7.1.2.2.2.2.1 = z2 ∧ u_7.1.2.2.2.2.2.2.2.2.1 = z3) ∨ (¬ ((z1 : Int) = 2 ∧ ((0 ≤ (z1 : Int) ∧ (z1 : Int) ≤ 3) ∧ (0 ≤ z2 ∧ z2 ≤ 3) ∧ (0 ≤ z3 ∧ z3 ≤ 60))) ∧ u_7.1.2.2.2.2.1 = (IB 4) ∧ u_7.1.2.2.2.2.2.2.2.2.1 = (IB 5))) ∧ ((((z1 : Int) = 3 ∧ ((0 ≤ (z1 : Int) ∧ (z1 : Int) ≤ 3) ∧ (0 ≤ z2 ∧ z2 ≤ 3) ∧ (0 ≤ z3 ∧ z3 ≤ 60))) ∧ u_7.1.2.2.2.2.2.1 = z2 ∧ u_7.1.2.2.2.2.2.2.2.2.2 = z3) ∨ (¬ ((z1 : Int) = 3 ∧ ((0 ≤ (z1 : Int) ∧ (z1 : Int) ≤ 3) ∧ (0 ≤ z2 ∧ z2 ≤ 3) ∧ (0 ≤ z3 ∧ z3 ≤ 60))) ∧ u_7.1.2.2.2.2.2.1 = (IB 6) ∧ u_7.1.2.2.2.2.2.2.2.2.2 = (IB 7))) := hφ
  obtain ⟨hP, hD⟩ := PD.by3 (is := [25, 0, 1, 2, 3, 4, 5, 6, 7, 8, 9, 10, 11, 12, 13, 14, 15, 16, 17, 18, 19, 20, 21, 22, 23, 24, 26, 27, 28, 29, 30, 31, 32, 33, 34]) (y := (GA k a (u9 IA 2 u_7.1.2.1) LA FA QA VA r) ++ ((GB k a (fun i => [u_7.1.2.2.1, u_7.1.2.2.2.2.2.2.1, u_7.1.2.2.2.1, u_7.1.2.2.2.2.2.2.2.1, u_7.1.2.2.2.2.1, u_7.1.2.2.2.2.2.2.2.2.1, u_7.1.2.2.2.2.2.1, u_7.1.2.2.2.2.2.2.2.2.2].getD i 0) LB FB (u9 (u9 (u9 (u9 QB 0 u_7.2.2.2.1) 1 u_7.2.2.2.2.1) 2 u_7.2.2.2.2.2.1) 3 u_7.2.2.2.2.2.2) VB r))) ⟨hP, hD⟩ (by decide +kernel) rfl rfl
  obtain ⟨hP, hD⟩ := PD.as2 ⟨hP, hD⟩
  refine W.eq (g2 := F0 m 402 ls [.int (iZ u_7.1.1)]) rfl ?_
  replace p_13 : Unit → _ := fun _ => p_13
  replace p_14 : Unit → _ := fun _ => p_14
  replace p_15 : Unit → _ := fun _ => p_15
  replace p_16 : Unit → _ := fun _ => p_16
  refine lv_pop hx hb dL_law_402 rfl ?_
  refine lv_aload_n hx hb dL_law_403 rfl (lv_at hl 1 rfl) ?_
  refine lv_aload_n hx hb dL_law_404 rfl (lv_at hl 3 rfl) ?_
  refine lv_iload_n hx hb dL_law_405 rfl (lv_at hl 0 rfl) ?_
  refine lv_iconst (v := iZ 1) hx hb dL_law_406 rfl ?_
  refine lv_iadd hx hb dL_law_407 ?_
  refine lv_topi (fun x_17 ex_17 => ?_)
  obtain rfl : x_17 = iZ (i + 1) := ex_17.trans (iZ_add i 1)
  refine va_sld hx hb hX hbl hbA hS (zi1 hi hL) dL_law_408 ?_
  refine lv_topi (fun x_18 ex_18 => ?_)
  obtain rfl : x_18 = iZ z1 := ex_18.trans hz1
  refine lv_aload_n hx hb dL_law_409 rfl (lv_at hl 3 rfl) ?_
  refine lv_iload_n hx hb dL_law_410 rfl (lv_at hl 0 rfl) ?_
  refine lv_iconst (v := iZ 2) hx hb dL_law_411 rfl ?_
  refine lv_iadd hx hb dL_law_412 ?_
  refine lv_topi (fun x_19 ex_19 => ?_)
  obtain rfl : x_19 = iZ (i + 2) := ex_19.trans (iZ_add i 2)
  refine va_sld hx hb hX hbl hbA hS (zi2 hi hL) dL_law_413 ?_
  refine lv_topi (fun x_20 ex_20 => ?_)
  obtain rfl : x_20 = iZ z2 := ex_20.trans hz2
  refine lv_aload_n hx hb dL_law_414 rfl (lv_at hl 3 rfl) ?_
  refine lv_iload_n hx hb dL_law_415 rfl (lv_at hl 0 rfl) ?_
  refine lv_iconst (v := iZ 3) hx hb dL_law_416 rfl ?_
  refine lv_iadd hx hb dL_law_417 ?_
  refine lv_topi (fun x_21 ex_21 => ?_)
  obtain rfl : x_21 = iZ (i + 3) := ex_21.trans (iZ_add i 3)
  refine va_sld hx hb hX hbl hbA hS (zi3 hi hL) dL_law_418 ?_
  refine lv_topi (fun x_22 ex_22 => ?_)
  obtain rfl : x_22 = iZ z3 := ex_22.trans hz3
  obtain ⟨hP, hD⟩ := PD.fr5 ⟨hP, hD⟩
  refine CKV2 (As := [.int (iZ z1), .int (iZ z2), .int (iZ z3)]) (rest := []) (tl := (GA k a (u9 IA 2 u_7.1.2.1) LA FA QA VA r) ++ ((GB k a (fun i => [u_7.1.2.2.1, u_7.1.2.2.2.2.2.2.1, u_7.1.2.2.2.1, u_7.1.2.2.2.2.2.2.2.1, u_7.1.2.2.2.2.1, u_7.1.2.2.2.2.2.2.2.2.1, u_7.1.2.2.2.2.2.1, u_7.1.2.2.2.2.2.2.2.2.2].getD i 0) LB FB (u9 (u9 (u9 (u9 QB 0 u_7.2.2.2.1) 1 u_7.2.2.2.2.1) 2 u_7.2.2.2.2.2.1) 3 u_7.2.2.2.2.2.2) VB r) ++ ((GC k a IC LC FC QC VC r) ++ ((GD k a ID LD FD QD VD r) ++ (r.tl))))) hx hb hml hown hts hKK hP hD hS hA (q_tray l D k (a 106) (a 107) (a 108) (a 109) (a 110) (a 111) (a 112) (a 113) (a 114) (a 115) (a 116) (a 117) (a 118) (a 119) (a 120) (a 121) (a 122) (IR 0) (IR 1) (IR 2) (IR 3) (IR 4) (IR 5) (IR 6) (IR 7) (IR 8) (IR 9) (IR 10) (IR 11) (IR 12) (IR 13) (IR 14) (IR 15) (IR 16) (IR 17) (LR 0) (LR 1) (FR 1) (FR 2) (QR 1) z1 z2 z3 rgS rgY ⟨hz1a, hz1b⟩ ⟨hz2a, hz2b⟩ ⟨hz3a, hz3b⟩) ci_X12_tray qm_L_31 ⟨Nat.le_of_ble_eq_true rfl, Nat.le_of_ble_eq_true rfl⟩ (lroom _) [0, 3, 4, 5] [1, 2, 6, 7, 8, 9, 10, 11, 12, 13, 14, 15, 16] rfl rfl rfl (by decide +kernel) (by decide +kernel) (by decide +kernel) 0 rfl rfl rfl hl.1 rfl (Nat.le_of_ble_eq_true rfl) dL_law_419 (fun u_23 H locs hφ hP hD hS => ?_)
  obtain ⟨p_24, p_25, p_26, p_27⟩ : (rgI u_23.2.2.1.1 0 3 4) ∧ (rgI u_23.2.2.1.2 (-1) 60 4) ∧ (((u_23.1.1 : Int) = 1 ∧ ((0 ≤ z1 ∧ z1 ≤ 3) ∧ (0 ≤ z2 ∧ z2 ≤ 3) ∧ (0 ≤ z3 ∧ z3 ≤ 60))) ∨ ((u_23.1.1 : Int) = 0 ∧ ¬ ((0 ≤ z1 ∧ z1 ≤ 3) ∧ (0 ≤ z2 ∧ z2 ≤ 3) ∧ (0 ≤ z3 ∧ z3 ≤ 60)))) ∧ ((((0 ≤ z1 ∧ z1 ≤ 3) ∧ (0 ≤ z2 ∧ z2 ≤ 3) ∧ (0 ≤ z3 ∧ z3 ≤ 60)) ∧ u_23.2.2.1.1 = upd (FR 1) (iZ z1).toNatClampNeg (iZ z2) ∧ u_23.2.2.1.2 = upd (FR 2) (iZ z1).toNatClampNeg (iZ z3)) ∨ (¬ ((0 ≤ z1 ∧ z1 ≤ 3) ∧ (0 ≤ z2 ∧ z2 ≤ 3) ∧ (0 ≤ z3 ∧ z3 ≤ 60)) ∧ u_23.2.2.1.1 = (FR 1) ∧ u_23.2.2.1.2 = (FR 2))) := hφ
  obtain ⟨hP, hD⟩ := PD.by3 (is := [13, 0, 1, 14, 15, 16, 2, 3, 4, 5, 6, 7, 8, 9, 10, 11, 12]) (y := (GR k a (u9 IR 0 u_23.1.2) LR (u9 (u9 FR 1 u_23.2.2.1.1) 2 u_23.2.2.1.2) (u9 QR 1 u_23.2.2.2) VR r)) ⟨hP, hD⟩ (by decide +kernel) rfl rfl
  refine W.eq (g2 := F0 m 422 ls [.int (iZ u_23.1.1)]) rfl ?_
  replace p_27 : Unit → _ := fun _ => p_27
  refine lv_pop hx hb dL_law_422 rfl ?_
  refine lv_goto (tgt := 2846) hx hb dL_law_423 rfl ?_
  obtain ⟨hP, hD⟩ := PD.fr5 ⟨hP, hD⟩
  obtain ⟨hP, hD⟩ := PD.fr5 ⟨hP, hD⟩
  obtain ⟨hP, hD⟩ := PD.fr5 ⟨hP, hD⟩
  obtain ⟨hP, hD⟩ := PD.fr5 ⟨hP, hD⟩
  exact hk a (u9 IA 2 u_7.1.2.1) LA FA QA VA (fun i => [u_7.1.2.2.1, u_7.1.2.2.2.2.2.2.1, u_7.1.2.2.2.1, u_7.1.2.2.2.2.2.2.2.1, u_7.1.2.2.2.2.1, u_7.1.2.2.2.2.2.2.2.2.1, u_7.1.2.2.2.2.2.1, u_7.1.2.2.2.2.2.2.2.2.2].getD i 0) LB FB (u9 (u9 (u9 (u9 QB 0 u_7.2.2.2.1) 1 u_7.2.2.2.2.1) 2 u_7.2.2.2.2.2.1) 3 u_7.2.2.2.2.2.2) VB IC LC FC QC VC ID LD FD QD VD (u9 IR 0 u_23.1.2) LR (u9 (u9 FR 1 u_23.2.2.1.1) 2 u_23.2.2.1.2) (u9 QR 1 u_23.2.2.2) VR r H locs ls (show INV _ _ _ _ _ _ _ _ _ _ _ _ _ _ _ from ⟨hWI, hWI_0, hWI_1, hWI_2, hrd, (show (0 ≤ u_7.1.2.2.1 ∧ u_7.1.2.2.1 ≤ 3) ∧ (-1 ≤ u_7.1.2.2.2.2.2.2.1 ∧ u_7.1.2.2.2.2.2.2.1 ≤ 60) from (by first | with_reducible assumption | omega)), (show (0 ≤ u_7.1.2.2.2.1 ∧ u_7.1.2.2.2.1 ≤ 3) ∧ (-1 ≤ u_7.1.2.2.2.2.2.2.2.1 ∧ u_7.1.2.2.2.2.2.2.2.1 ≤ 60) from (by first | with_reducible assumption | omega)), (show (0 ≤ u_7.1.2.2.2.2.1 ∧ u_7.1.2.2.2.2.1 ≤ 3) ∧ (-1 ≤ u_7.1.2.2.2.2.2.2.2.2.1 ∧ u_7.1.2.2.2.2.2.2.2.2.1 ≤ 60) from (by first | with_reducible assumption | omega)), (show (0 ≤ u_7.1.2.2.2.2.2.1 ∧ u_7.1.2.2.2.2.2.1 ≤ 3) ∧ (-1 ≤ u_7.1.2.2.2.2.2.2.2.2.2 ∧ u_7.1.2.2.2.2.2.2.2.2.2 ≤ 60) from (by first | with_reducible assumption | omega)), hrgk, hrgt, hdrc, hev, hmk, hM, hMK, hTI, hFS, htd, hlt, rgH, (show rgI u_23.2.2.1.1 0 3 4 from (by assumption)), (show rgI u_23.2.2.1.2 (-1) 60 4 from (by assumption)), hdr, hit, hmmk, heq, htq, (show ∀ t : Int, 0 ≤ t → t ≤ 3 → gz u_23.2.2.1.1 t = s4 t u_7.1.2.2.1 u_7.1.2.2.2.1 u_7.1.2.2.2.2.1 u_7.1.2.2.2.2.2.1 ∧ gz u_23.2.2.1.2 t = s4 t u_7.1.2.2.2.2.2.2.1 u_7.1.2.2.2.2.2.2.2.1 u_7.1.2.2.2.2.2.2.2.2.1 u_7.1.2.2.2.2.2.2.2.2.2 from fun t h1 h2 => by
    rcases p_27 () with ⟨k1, k2, k3⟩ | ⟨k1, k2, k3⟩
    · have u0 := fun j hj => gz_upc (j := j) k2 (by omega) (by omega) hj
      have w0 := fun j hj => gz_upc (j := j) k3 (by omega) (by omega) hj
      rcases lt4 h1 h2 with rfl | rfl | rfl | rfl
      · exact (show gz u_23.2.2.1.1 0 = u_7.1.2.2.1 ∧ gz u_23.2.2.1.2 0 = u_7.1.2.2.2.2.2.2.1 from tr_a (p_13 ()) k1 (u0 0 (by decide)) (w0 0 (by decide)) (show gz (FR 1) 0 = (IB 0) ∧ gz (FR 2) 0 = (IB 1) from hrel 0 (by decide) (by decide)))
      · exact (show gz u_23.2.2.1.1 1 = u_7.1.2.2.2.1 ∧ gz u_23.2.2.1.2 1 = u_7.1.2.2.2.2.2.2.2.1 from tr_a (p_14 ()) k1 (u0 1 (by decide)) (w0 1 (by decide)) (show gz (FR 1) 1 = (IB 2) ∧ gz (FR 2) 1 = (IB 3) from hrel 1 (by decide) (by decide)))
      · exact (show gz u_23.2.2.1.1 2 = u_7.1.2.2.2.2.1 ∧ gz u_23.2.2.1.2 2 = u_7.1.2.2.2.2.2.2.2.2.1 from tr_a (p_15 ()) k1 (u0 2 (by decide)) (w0 2 (by decide)) (show gz (FR 1) 2 = (IB 4) ∧ gz (FR 2) 2 = (IB 5) from hrel 2 (by decide) (by decide)))
      · exact (show gz u_23.2.2.1.1 3 = u_7.1.2.2.2.2.2.1 ∧ gz u_23.2.2.1.2 3 = u_7.1.2.2.2.2.2.2.2.2.2 from tr_a (p_16 ()) k1 (u0 3 (by decide)) (w0 3 (by decide)) (show gz (FR 1) 3 = (IB 6) ∧ gz (FR 2) 3 = (IB 7) from hrel 3 (by decide) (by decide)))
    · rw [k2, k3]
      rcases lt4 h1 h2 with rfl | rfl | rfl | rfl
      · exact (show gz (FR 1) 0 = u_7.1.2.2.1 ∧ gz (FR 2) 0 = u_7.1.2.2.2.2.2.2.1 from tr_b (p_13 ()) k1 (show gz (FR 1) 0 = (IB 0) ∧ gz (FR 2) 0 = (IB 1) from hrel 0 (by decide) (by decide)))
      · exact (show gz (FR 1) 1 = u_7.1.2.2.2.1 ∧ gz (FR 2) 1 = u_7.1.2.2.2.2.2.2.2.1 from tr_b (p_14 ()) k1 (show gz (FR 1) 1 = (IB 2) ∧ gz (FR 2) 1 = (IB 3) from hrel 1 (by decide) (by decide)))
      · exact (show gz (FR 1) 2 = u_7.1.2.2.2.2.1 ∧ gz (FR 2) 2 = u_7.1.2.2.2.2.2.2.2.2.1 from tr_b (p_15 ()) k1 (show gz (FR 1) 2 = (IB 4) ∧ gz (FR 2) 2 = (IB 5) from hrel 2 (by decide) (by decide)))
      · exact (show gz (FR 1) 3 = u_7.1.2.2.2.2.2.1 ∧ gz (FR 2) 3 = u_7.1.2.2.2.2.2.2.2.2.2 from tr_b (p_16 ()) k1 (show gz (FR 1) 3 = (IB 6) ∧ gz (FR 2) 3 = (IB 7) from hrel 3 (by decide) (by decide)))), hbf, htb, hkw, hSK, hSK0, hSK1, hSK2, hNE, hNE0, hNE1, hNE2, hLE, hYE, hQE, hLE0, hLE1, hLE2, hYE0, hYE1, hYE2⟩) hRT hP hD hS (lv_sub hl [0, 1, 2, 3] rfl)
set_option maxHeartbeats 40000000 in
set_option maxRecDepth 100000 in
theorem law_c4 {p : Program} {e : Env} {s : State} {m : MethodId} {below : List Frame} {meth : Method} {c : Code} (l : Launch) {b L : Nat} {xs : Nat → Int32} {A : Nat → Prop} {D : va_G} {k : Nat → ClassId} {sa sv : Nat} {i : Int} (C : LFX p s m meth c b L xs A D k sa sv) (hi : 0 ≤ i ∧ i + 6 ≤ (L : Int)) (hk : LAT p l e s m below meth c b A D k 2846 i) : LAT p l e s m below meth c b A D k 426 i := by
  obtain ⟨hx, hb, hr, hml, hown, hts, hKK, hX, hbl, hbA, hA, hAf, hlocks, hSY, hRR, hL⟩ := id C
  intro a IA LA FA QA VA IB LB FB QB VB IC LC FC QC VC ID LD FD QD VD IR LR FR QR VR r H locs ls hI hRT hP hD hS hl
  have hK := hKK.1
  obtain ⟨hP, hD⟩ : PD D A ((GA k a IA LA FA QA VA r) ++ ((GB k a IB LB FB QB VB r) ++ ((GC k a IC LC FC QC VC r) ++ ((GD k a ID LD FD QD VD r) ++ ((GR k a IR LR FR QR VR r) ++ (r.tl)))))) H := ⟨hP, hD⟩
  obtain ⟨hWI, hWI_0, hWI_1, hWI_2, hrd, htr0, htr1, htr2, htr3, hrgk, hrgt, hdrc, hev, hmk, hM, hMK, hTI, hFS, htd, hlt, rgH, rgS, rgY, hdr, hit, hmmk, heq, htq, hrel, hbf, htb, hkw, hSK, hSK0, hSK1, hSK2, hNE, hNE0, hNE1, hNE2, hLE, hYE, hQE, hLE0, hLE1, hLE2, hYE0, hYE1, hYE2⟩ := id hI
  obtain ⟨gw1, gw2, gw3, gw4, gw5, gw6, gw7, gw8, gw9, gw10, gw11⟩ := id hWI
  have hx0 := gw9
  have hYI := gw11
  have hpf : rgI (FR 3) (-128) 127 900 := fun e h1 h2 => by rw [← htb e h1 h2]; exact hbf e h1 h2
  obtain ⟨z1, hz1, hz1a, hz1b⟩ := i32_z (xs (iZ (i + 1)).toNatClampNeg)
  obtain ⟨z2, hz2, hz2a, hz2b⟩ := i32_z (xs (iZ (i + 2)).toNatClampNeg)
  obtain ⟨z3, hz3, hz3a, hz3b⟩ := i32_z (xs (iZ (i + 3)).toNatClampNeg)
  obtain ⟨z4, hz4, hz4a, hz4b⟩ := i32_z (xs (iZ (i + 4)).toNatClampNeg)
  obtain ⟨z5, hz5, hz5a, hz5b⟩ := i32_z (xs (iZ (i + 5)).toNatClampNeg)
  have hl : lv_has ls 4 [(3, .int (iZ i)), (2, .ref (a 106)), (1, .ref (a 0)), (0, .ref b)] := hl
  have hls := hQE.1
  replace hls : _ := hls
  refine lv_aload_n hx hb dL_law_426 rfl (lv_at hl 2 rfl) ?_
  refine lv_aload_n hx hb dL_law_427 rfl (lv_at hl 3 rfl) ?_
  refine lv_iload_n hx hb dL_law_428 rfl (lv_at hl 0 rfl) ?_
  refine lv_iconst (v := iZ 1) hx hb dL_law_429 rfl ?_
  refine lv_iadd hx hb dL_law_430 ?_
  refine lv_topi (fun x_1 ex_1 => ?_)
  obtain rfl : x_1 = iZ (i + 1) := ex_1.trans (iZ_add i 1)
  refine va_sld hx hb hX hbl hbA hS (zi1 hi hL) dL_law_431 ?_
  refine lv_topi (fun x_2 ex_2 => ?_)
  obtain rfl : x_2 = iZ z1 := ex_2.trans hz1
  refine lv_aload_n hx hb dL_law_432 rfl (lv_at hl 3 rfl) ?_
  refine lv_iload_n hx hb dL_law_433 rfl (lv_at hl 0 rfl) ?_
  refine lv_iconst (v := iZ 2) hx hb dL_law_434 rfl ?_
  refine lv_iadd hx hb dL_law_435 ?_
  refine lv_topi (fun x_3 ex_3 => ?_)
  obtain rfl : x_3 = iZ (i + 2) := ex_3.trans (iZ_add i 2)
  refine va_sld hx hb hX hbl hbA hS (zi2 hi hL) dL_law_436 ?_
  refine lv_topi (fun x_4 ex_4 => ?_)
  obtain rfl : x_4 = iZ z2 := ex_4.trans hz2
  refine lv_aload_n hx hb dL_law_437 rfl (lv_at hl 3 rfl) ?_
  refine lv_iload_n hx hb dL_law_438 rfl (lv_at hl 0 rfl) ?_
  refine lv_iconst (v := iZ 3) hx hb dL_law_439 rfl ?_
  refine lv_iadd hx hb dL_law_440 ?_
  refine lv_topi (fun x_5 ex_5 => ?_)
  obtain rfl : x_5 = iZ (i + 3) := ex_5.trans (iZ_add i 3)
  refine va_sld hx hb hX hbl hbA hS (zi3 hi hL) dL_law_441 ?_
  refine lv_topi (fun x_6 ex_6 => ?_)
  obtain rfl : x_6 = iZ z3 := ex_6.trans hz3
  refine lv_i2l (v := (iZ z3).toInt64) hx hb dL_law_442 rfl ?_
  refine lv_bipush (v := iZ 32) hx hb dL_law_443 bip_32 ?_
  refine lv_lshl (v := _) hx hb dL_law_445 rfl ?_
  refine lv_topl (fun y_7 ey_7 => ?_)
  refine lv_aload_n hx hb dL_law_446 rfl (lv_at hl 3 rfl) ?_
  refine lv_iload_n hx hb dL_law_447 rfl (lv_at hl 0 rfl) ?_
  refine lv_iconst (v := iZ 4) hx hb dL_law_448 rfl ?_
  refine lv_iadd hx hb dL_law_449 ?_
  refine lv_topi (fun x_8 ex_8 => ?_)
  obtain rfl : x_8 = iZ (i + 4) := ex_8.trans (iZ_add i 4)
  refine va_sld hx hb hX hbl hbA hS (zi4 hi hL) dL_law_450 ?_
  refine lv_topi (fun x_9 ex_9 => ?_)
  obtain rfl : x_9 = iZ z4 := ex_9.trans hz4
  refine lv_i2l (v := (iZ z4).toInt64) hx hb dL_law_451 rfl ?_
  refine lv_ldc2 (own := RL) (v := 4294967295) hx hb hown (hts _ qk_L_32) dL_law_452 ?_
  refine lv_land hx hb dL_law_455 ?_
  refine lv_topl (fun y_10 ey_10 => ?_)
  refine lv_lor hx hb dL_law_456 ?_
  refine lv_topl (fun y_11 ey_11 => ?_)
  obtain ⟨hP, hD⟩ := PD.swap ⟨hP, hD⟩
  obtain ⟨hP, hD⟩ := PD.swap ⟨hP, hD⟩
  obtain ⟨hP, hD⟩ := PD.sa2 ⟨hP, hD⟩
  refine CKV2 (As := [.int (iZ z1), .int (iZ z2), .long y_11]) (rest := []) (tl := (GC k a IC LC FC QC VC r) ++ ((GD k a ID LD FD QD VD r) ++ ((GR k a IR LR FR QR VR r) ++ (r.tl)))) hx hb hml hown hts hKK hP hD hS hA (p_write l D k (a 0) (a 1) (a 2) (a 3) (a 4) (a 5) (a 6) (a 7) (a 8) (a 9) (a 10) (a 11) (IA 0) (IA 1) (IA 2) (LA 0) (LA 1) (fun i => some (a (12 + i))) (a 12) (a 13) (a 14) (a 15) (a 19) (a 20) (a 21) (a 22) (IB 0) (IB 2) (IB 4) (IB 6) (IB 1) (IB 3) (IB 5) (IB 7) (QB 0) (QB 1) (QB 2) (QB 3) z1 z2 y_11 rfl rfl rfl rfl ⟨⟨by omega, by omega⟩, ⟨by omega, by omega⟩⟩ ⟨⟨by omega, by omega⟩, ⟨by omega, by omega⟩⟩ ⟨⟨by omega, by omega⟩, ⟨by omega, by omega⟩⟩ ⟨⟨by omega, by omega⟩, ⟨by omega, by omega⟩⟩ ⟨hz1a, hz1b⟩ ⟨hz2a, hz2b⟩) ci_X11_write qm_L_34 ⟨Nat.le_of_ble_eq_true rfl, Nat.le_of_ble_eq_true rfl⟩ (lroom _) [0, 26, 27, 28, 29, 30, 31, 32, 33, 34] [1, 2, 3, 4, 5, 6, 7, 8, 9, 10, 11, 12, 13, 14, 15, 16, 17, 18, 19, 20, 21, 22, 23, 24, 25] rfl rfl rfl (by decide +kernel) (by decide +kernel) (by decide +kernel) 0 rfl rfl rfl hl.1 rfl (Nat.le_of_ble_eq_true rfl) dL_law_457 (fun u_12 H locs hφ hP hD hS => ?_)
  have p_13 : ((u_12.1.1 : Int) = 1 ∧ (((z1 : Int) = 0 ∧ 0 ≤ z2 ∧ z2 < (IB 1)) ∨ ((z1 : Int) = 1 ∧ 0 ≤ z2 ∧ z2 < (IB 3)) ∨ ((z1 : Int) = 2 ∧ 0 ≤ z2 ∧ z2 < (IB 5)) ∨ ((z1 : Int) = 3 ∧ 0 ≤ z2 ∧ z2 < (IB 7)))) ∨ ((u_12.1.1 : Int) = 0 ∧ ¬ (((z1 : Int) = 0 ∧ 0 ≤ z2 ∧ z2 < (IB 1)) ∨ ((z1 : Int) = 1 ∧ 0 ≤ z2 ∧ z2 < (IB 3)) ∨ ((z1 : Int) = 2 ∧ 0 ≤ z2 ∧ z2 < (IB 5)) ∨ ((z1 : Int) = 3 ∧ 0 ≤ z2 ∧ z2 < (IB 7)))) := hφ
  obtain ⟨hP, hD⟩ := PD.by3 (is := [25, 0, 1, 2, 3, 4, 5, 6, 7, 8, 9, 10, 11, 12, 13, 14, 15, 16, 17, 18, 19, 20, 21, 22, 23, 24, 26, 27, 28, 29, 30, 31, 32, 33, 34]) (y := (GA k a (u9 IA 2 u_12.1.2) LA FA QA VA r) ++ ((GB k a IB LB FB (u9 (u9 (u9 (u9 QB 0 u_12.2.2.2.1) 1 u_12.2.2.2.2.1) 2 u_12.2.2.2.2.2.1) 3 u_12.2.2.2.2.2.2) VB r))) ⟨hP, hD⟩ (by decide +kernel) rfl rfl
  obtain ⟨hP, hD⟩ := PD.as2 ⟨hP, hD⟩
  refine W.eq (g2 := F0 m 460 ls [.int (iZ u_12.1.1)]) rfl ?_
  replace p_13 : Unit → _ := fun _ => p_13
  refine lv_pop hx hb dL_law_460 rfl ?_
  refine lv_aload_n hx hb dL_law_461 rfl (lv_at hl 1 rfl) ?_
  refine lv_aload_n hx hb dL_law_462 rfl (lv_at hl 3 rfl) ?_
  refine lv_iload_n hx hb dL_law_463 rfl (lv_at hl 0 rfl) ?_
  refine lv_iconst (v := iZ 1) hx hb dL_law_464 rfl ?_
  refine lv_iadd hx hb dL_law_465 ?_
  refine lv_topi (fun x_14 ex_14 => ?_)
  obtain rfl : x_14 = iZ (i + 1) := ex_14.trans (iZ_add i 1)
  refine va_sld hx hb hX hbl hbA hS (zi1 hi hL) dL_law_466 ?_
  refine lv_topi (fun x_15 ex_15 => ?_)
  obtain rfl : x_15 = iZ z1 := ex_15.trans hz1
  refine lv_aload_n hx hb dL_law_467 rfl (lv_at hl 3 rfl) ?_
  refine lv_iload_n hx hb dL_law_468 rfl (lv_at hl 0 rfl) ?_
  refine lv_iconst (v := iZ 2) hx hb dL_law_469 rfl ?_
  refine lv_iadd hx hb dL_law_470 ?_
  refine lv_topi (fun x_16 ex_16 => ?_)
  obtain rfl : x_16 = iZ (i + 2) := ex_16.trans (iZ_add i 2)
  refine va_sld hx hb hX hbl hbA hS (zi2 hi hL) dL_law_471 ?_
  refine lv_topi (fun x_17 ex_17 => ?_)
  obtain rfl : x_17 = iZ z2 := ex_17.trans hz2
  refine lv_aload_n hx hb dL_law_472 rfl (lv_at hl 3 rfl) ?_
  refine lv_iload_n hx hb dL_law_473 rfl (lv_at hl 0 rfl) ?_
  refine lv_iconst (v := iZ 3) hx hb dL_law_474 rfl ?_
  refine lv_iadd hx hb dL_law_475 ?_
  refine lv_topi (fun x_18 ex_18 => ?_)
  obtain rfl : x_18 = iZ (i + 3) := ex_18.trans (iZ_add i 3)
  refine va_sld hx hb hX hbl hbA hS (zi3 hi hL) dL_law_476 ?_
  refine lv_topi (fun x_19 ex_19 => ?_)
  obtain rfl : x_19 = iZ z3 := ex_19.trans hz3
  refine lv_i2l (v := (iZ z3).toInt64) hx hb dL_law_477 rfl ?_
  refine lv_bipush (v := iZ 32) hx hb dL_law_478 bip_32 ?_
  refine lv_lshl (v := _) hx hb dL_law_480 rfl ?_
  refine lv_topl (fun y_20 ey_20 => ?_)
  refine lv_aload_n hx hb dL_law_481 rfl (lv_at hl 3 rfl) ?_
  refine lv_iload_n hx hb dL_law_482 rfl (lv_at hl 0 rfl) ?_
  refine lv_iconst (v := iZ 4) hx hb dL_law_483 rfl ?_
  refine lv_iadd hx hb dL_law_484 ?_
  refine lv_topi (fun x_21 ex_21 => ?_)
  obtain rfl : x_21 = iZ (i + 4) := ex_21.trans (iZ_add i 4)
  refine va_sld hx hb hX hbl hbA hS (zi4 hi hL) dL_law_485 ?_
  refine lv_topi (fun x_22 ex_22 => ?_)
  obtain rfl : x_22 = iZ z4 := ex_22.trans hz4
  refine lv_i2l (v := (iZ z4).toInt64) hx hb dL_law_486 rfl ?_
  refine lv_ldc2 (own := RL) (v := 4294967295) hx hb hown (hts _ qk_L_32) dL_law_487 ?_
  refine lv_land hx hb dL_law_490 ?_
  refine lv_topl (fun y_23 ey_23 => ?_)
  refine lv_lor hx hb dL_law_491 ?_
  refine lv_topl (fun y_24 ey_24 => ?_)
  obtain ⟨hP, hD⟩ := PD.fr5 ⟨hP, hD⟩
  refine CKV2 (As := [.int (iZ z1), .int (iZ z2), .long y_24]) (rest := []) (tl := (GA k a (u9 IA 2 u_12.1.2) LA FA QA VA r) ++ ((GB k a IB LB FB (u9 (u9 (u9 (u9 QB 0 u_12.2.2.2.1) 1 u_12.2.2.2.2.1) 2 u_12.2.2.2.2.2.1) 3 u_12.2.2.2.2.2.2) VB r) ++ ((GC k a IC LC FC QC VC r) ++ ((GD k a ID LD FD QD VD r) ++ (r.tl))))) hx hb hml hown hts hKK hP hD hS hA (q_write l D k (a 106) (a 107) (a 108) (a 109) (a 110) (a 111) (a 112) (a 113) (a 114) (a 115) (a 116) (a 117) (a 118) (a 119) (a 120) (a 121) (a 122) (IR 0) (IR 1) (IR 2) (IR 3) (IR 4) (IR 5) (IR 6) (IR 7) (IR 8) (IR 9) (IR 10) (IR 11) (IR 12) (IR 13) (IR 14) (IR 15) (IR 16) (IR 17) (LR 0) (LR 1) (FR 1) (FR 2) (QR 1) z1 z2 y_24 rgS rgY ⟨hz1a, hz1b⟩ ⟨hz2a, hz2b⟩) ci_X12_write qm_L_38 ⟨Nat.le_of_ble_eq_true rfl, Nat.le_of_ble_eq_true rfl⟩ (lroom _) [0, 3, 4, 5] [1, 2, 6, 7, 8, 9, 10, 11, 12, 13, 14, 15, 16] rfl rfl rfl (by decide +kernel) (by decide +kernel) (by decide +kernel) 0 rfl rfl rfl hl.1 rfl (Nat.le_of_ble_eq_true rfl) dL_law_492 (fun u_25 H locs hφ hP hD hS => ?_)
  have p_26 : ((u_25.1.1 : Int) = 1 ∧ ((0 ≤ z1 ∧ z1 ≤ 3) ∧ 0 ≤ z2 ∧ z2 < gz (FR 2) z1)) ∨ ((u_25.1.1 : Int) = 0 ∧ ¬ ((0 ≤ z1 ∧ z1 ≤ 3) ∧ 0 ≤ z2 ∧ z2 < gz (FR 2) z1)) := hφ
  obtain ⟨hP, hD⟩ := PD.by3 (is := [13, 0, 1, 14, 15, 16, 2, 3, 4, 5, 6, 7, 8, 9, 10, 11, 12]) (y := (GR k a (u9 IR 0 u_25.1.2) LR FR (u9 QR 1 u_25.2.2.2) VR r)) ⟨hP, hD⟩ (by decide +kernel) rfl rfl
  refine W.eq (g2 := F0 m 495 ls [.int (iZ u_25.1.1)]) rfl ?_
  replace p_26 : Unit → _ := fun _ => p_26
  refine lv_pop hx hb dL_law_495 rfl ?_
  refine lv_goto (tgt := 2846) hx hb dL_law_496 rfl ?_
  obtain ⟨hP, hD⟩ := PD.fr5 ⟨hP, hD⟩
  obtain ⟨hP, hD⟩ := PD.fr5 ⟨hP, hD⟩
  obtain ⟨hP, hD⟩ := PD.fr5 ⟨hP, hD⟩
  obtain ⟨hP, hD⟩ := PD.fr5 ⟨hP, hD⟩
  exact hk a (u9 IA 2 u_12.1.2) LA FA QA VA IB LB FB (u9 (u9 (u9 (u9 QB 0 u_12.2.2.2.1) 1 u_12.2.2.2.2.1) 2 u_12.2.2.2.2.2.1) 3 u_12.2.2.2.2.2.2) VB IC LC FC QC VC ID LD FD QD VD (u9 IR 0 u_25.1.2) LR FR (u9 QR 1 u_25.2.2.2) VR r H locs ls (show INV _ _ _ _ _ _ _ _ _ _ _ _ _ _ _ from ⟨hWI, hWI_0, hWI_1, hWI_2, hrd, htr0, htr1, htr2, htr3, hrgk, hrgt, hdrc, hev, hmk, hM, hMK, hTI, hFS, htd, hlt, rgH, rgS, rgY, hdr, hit, hmmk, heq, htq, hrel, hbf, htb, hkw, hSK, hSK0, hSK1, hSK2, hNE, hNE0, hNE1, hNE2, hLE, hYE, hQE, hLE0, hLE1, hLE2, hYE0, hYE1, hYE2⟩) hRT hP hD hS (lv_sub hl [0, 1, 2, 3] rfl)
set_option maxHeartbeats 40000000 in
set_option maxRecDepth 100000 in
theorem law_c5 {p : Program} {e : Env} {s : State} {m : MethodId} {below : List Frame} {meth : Method} {c : Code} (l : Launch) {b L : Nat} {xs : Nat → Int32} {A : Nat → Prop} {D : va_G} {k : Nat → ClassId} {sa sv : Nat} {i : Int} (C : LFX p s m meth c b L xs A D k sa sv) (hi : 0 ≤ i ∧ i + 6 ≤ (L : Int)) (hk : LAT p l e s m below meth c b A D k 2846 i) : LAT p l e s m below meth c b A D k 499 i := by
  obtain ⟨hx, hb, hr, hml, hown, hts, hKK, hX, hbl, hbA, hA, hAf, hlocks, hSY, hRR, hL⟩ := id C
  intro a IA LA FA QA VA IB LB FB QB VB IC LC FC QC VC ID LD FD QD VD IR LR FR QR VR r H locs ls hI hRT hP hD hS hl
  have hK := hKK.1
  obtain ⟨hP, hD⟩ : PD D A ((GA k a IA LA FA QA VA r) ++ ((GB k a IB LB FB QB VB r) ++ ((GC k a IC LC FC QC VC r) ++ ((GD k a ID LD FD QD VD r) ++ ((GR k a IR LR FR QR VR r) ++ (r.tl)))))) H := ⟨hP, hD⟩
  obtain ⟨hWI, hWI_0, hWI_1, hWI_2, hrd, htr0, htr1, htr2, htr3, hrgk, hrgt, hdrc, hev, hmk, hM, hMK, hTI, hFS, htd, hlt, rgH, rgS, rgY, hdr, hit, hmmk, heq, htq, hrel, hbf, htb, hkw, hSK, hSK0, hSK1, hSK2, hNE, hNE0, hNE1, hNE2, hLE, hYE, hQE, hLE0, hLE1, hLE2, hYE0, hYE1, hYE2⟩ := id hI
  obtain ⟨gw1, gw2, gw3, gw4, gw5, gw6, gw7, gw8, gw9, gw10, gw11⟩ := id hWI
  have hx0 := gw9
  have hYI := gw11
  have hpf : rgI (FR 3) (-128) 127 900 := fun e h1 h2 => by rw [← htb e h1 h2]; exact hbf e h1 h2
  obtain ⟨z1, hz1, hz1a, hz1b⟩ := i32_z (xs (iZ (i + 1)).toNatClampNeg)
  obtain ⟨z2, hz2, hz2a, hz2b⟩ := i32_z (xs (iZ (i + 2)).toNatClampNeg)
  obtain ⟨z3, hz3, hz3a, hz3b⟩ := i32_z (xs (iZ (i + 3)).toNatClampNeg)
  obtain ⟨z4, hz4, hz4a, hz4b⟩ := i32_z (xs (iZ (i + 4)).toNatClampNeg)
  obtain ⟨z5, hz5, hz5a, hz5b⟩ := i32_z (xs (iZ (i + 5)).toNatClampNeg)
  have hl : lv_has ls 4 [(3, .int (iZ i)), (2, .ref (a 106)), (1, .ref (a 0)), (0, .ref b)] := hl
  have hls := hQE.1
  replace hls : _ := hls
  refine lv_aload_n hx hb dL_law_499 rfl (lv_at hl 2 rfl) ?_
  refine lv_aload_n hx hb dL_law_500 rfl (lv_at hl 3 rfl) ?_
  refine lv_iload_n hx hb dL_law_501 rfl (lv_at hl 0 rfl) ?_
  refine lv_iconst (v := iZ 1) hx hb dL_law_502 rfl ?_
  refine lv_iadd hx hb dL_law_503 ?_
  refine lv_topi (fun x_1 ex_1 => ?_)
  obtain rfl : x_1 = iZ (i + 1) := ex_1.trans (iZ_add i 1)
  refine va_sld hx hb hX hbl hbA hS (zi1 hi hL) dL_law_504 ?_
  refine lv_topi (fun x_2 ex_2 => ?_)
  obtain rfl : x_2 = iZ z1 := ex_2.trans hz1
  refine lv_aload_n hx hb dL_law_505 rfl (lv_at hl 3 rfl) ?_
  refine lv_iload_n hx hb dL_law_506 rfl (lv_at hl 0 rfl) ?_
  refine lv_iconst (v := iZ 2) hx hb dL_law_507 rfl ?_
  refine lv_iadd hx hb dL_law_508 ?_
  refine lv_topi (fun x_3 ex_3 => ?_)
  obtain rfl : x_3 = iZ (i + 2) := ex_3.trans (iZ_add i 2)
  refine va_sld hx hb hX hbl hbA hS (zi2 hi hL) dL_law_509 ?_
  refine lv_topi (fun x_4 ex_4 => ?_)
  obtain rfl : x_4 = iZ z2 := ex_4.trans hz2
  obtain ⟨hP, hD⟩ := PD.swap ⟨hP, hD⟩
  obtain ⟨hP, hD⟩ := PD.swap ⟨hP, hD⟩
  obtain ⟨hP, hD⟩ := PD.sa2 ⟨hP, hD⟩
  refine CKV2 (As := [.int (iZ z1), .int (iZ z2)]) (rest := []) (tl := (GC k a IC LC FC QC VC r) ++ ((GD k a ID LD FD QD VD r) ++ ((GR k a IR LR FR QR VR r) ++ (r.tl)))) hx hb hml hown hts hKK hP hD hS hA (p_read l D k (a 0) (a 1) (a 2) (a 3) (a 4) (a 5) (a 6) (a 7) (a 8) (a 9) (a 10) (a 11) (IA 0) (IA 1) (IA 2) (LA 0) (LA 1) (fun i => some (a (12 + i))) (a 12) (a 13) (a 14) (a 15) (a 19) (a 20) (a 21) (a 22) (IB 0) (IB 2) (IB 4) (IB 6) (IB 1) (IB 3) (IB 5) (IB 7) (QB 0) (QB 1) (QB 2) (QB 3) z1 z2 rfl rfl rfl rfl ⟨⟨by omega, by omega⟩, ⟨by omega, by omega⟩⟩ ⟨⟨by omega, by omega⟩, ⟨by omega, by omega⟩⟩ ⟨⟨by omega, by omega⟩, ⟨by omega, by omega⟩⟩ ⟨⟨by omega, by omega⟩, ⟨by omega, by omega⟩⟩ ⟨hz1a, hz1b⟩ ⟨hz2a, hz2b⟩) ci_X11_read qm_L_39 ⟨Nat.le_of_ble_eq_true rfl, Nat.le_of_ble_eq_true rfl⟩ (lroom _) [0, 26, 27, 28, 29, 30, 31, 32, 33, 34] [1, 2, 3, 4, 5, 6, 7, 8, 9, 10, 11, 12, 13, 14, 15, 16, 17, 18, 19, 20, 21, 22, 23, 24, 25] rfl rfl rfl (by decide +kernel) (by decide +kernel) (by decide +kernel) 0 rfl rfl rfl hl.1 rfl (Nat.le_of_ble_eq_true rfl) dL_law_510 (fun u_5 H locs hφ hP hD hS => ?_)
  obtain ⟨hP, hD⟩ := PD.by3 (is := [25, 0, 1, 2, 3, 4, 5, 6, 7, 8, 9, 10, 11, 12, 13, 14, 15, 16, 17, 18, 19, 20, 21, 22, 23, 24, 26, 27, 28, 29, 30, 31, 32, 33, 34]) (y := (GA k a (u9 IA 2 u_5.1.2) LA FA QA VA r) ++ ((GB k a IB LB FB QB VB r))) ⟨hP, hD⟩ (by decide +kernel) rfl rfl
  obtain ⟨hP, hD⟩ := PD.as2 ⟨hP, hD⟩
  refine W.eq (g2 := F0 m 513 ls [.long u_5.2.1]) rfl ?_
  refine lv_pop2_2 hx hb dL_law_513 rfl ?_
  refine lv_aload_n hx hb dL_law_514 rfl (lv_at hl 1 rfl) ?_
  refine lv_aload_n hx hb dL_law_515 rfl (lv_at hl 3 rfl) ?_
  refine lv_iload_n hx hb dL_law_516 rfl (lv_at hl 0 rfl) ?_
  refine lv_iconst (v := iZ 1) hx hb dL_law_517 rfl ?_
  refine lv_iadd hx hb dL_law_518 ?_
  refine lv_topi (fun x_6 ex_6 => ?_)
  obtain rfl : x_6 = iZ (i + 1) := ex_6.trans (iZ_add i 1)
  refine va_sld hx hb hX hbl hbA hS (zi1 hi hL) dL_law_519 ?_
  refine lv_topi (fun x_7 ex_7 => ?_)
  obtain rfl : x_7 = iZ z1 := ex_7.trans hz1
  refine lv_aload_n hx hb dL_law_520 rfl (lv_at hl 3 rfl) ?_
  refine lv_iload_n hx hb dL_law_521 rfl (lv_at hl 0 rfl) ?_
  refine lv_iconst (v := iZ 2) hx hb dL_law_522 rfl ?_
  refine lv_iadd hx hb dL_law_523 ?_
  refine lv_topi (fun x_8 ex_8 => ?_)
  obtain rfl : x_8 = iZ (i + 2) := ex_8.trans (iZ_add i 2)
  refine va_sld hx hb hX hbl hbA hS (zi2 hi hL) dL_law_524 ?_
  refine lv_topi (fun x_9 ex_9 => ?_)
  obtain rfl : x_9 = iZ z2 := ex_9.trans hz2
  obtain ⟨hP, hD⟩ := PD.fr5 ⟨hP, hD⟩
  refine CKV2 (As := [.int (iZ z1), .int (iZ z2)]) (rest := []) (tl := (GA k a (u9 IA 2 u_5.1.2) LA FA QA VA r) ++ ((GB k a IB LB FB QB VB r) ++ ((GC k a IC LC FC QC VC r) ++ ((GD k a ID LD FD QD VD r) ++ (r.tl))))) hx hb hml hown hts hKK hP hD hS hA (q_read l D k (a 106) (a 107) (a 108) (a 109) (a 110) (a 111) (a 112) (a 113) (a 114) (a 115) (a 116) (a 117) (a 118) (a 119) (a 120) (a 121) (a 122) (IR 0) (IR 1) (IR 2) (IR 3) (IR 4) (IR 5) (IR 6) (IR 7) (IR 8) (IR 9) (IR 10) (IR 11) (IR 12) (IR 13) (IR 14) (IR 15) (IR 16) (IR 17) (LR 0) (LR 1) (FR 1) (FR 2) (QR 1) z1 z2 rgS rgY ⟨hz1a, hz1b⟩ ⟨hz2a, hz2b⟩) ci_X12_read qm_L_43 ⟨Nat.le_of_ble_eq_true rfl, Nat.le_of_ble_eq_true rfl⟩ (lroom _) [0, 3, 4, 5] [1, 2, 6, 7, 8, 9, 10, 11, 12, 13, 14, 15, 16] rfl rfl rfl (by decide +kernel) (by decide +kernel) (by decide +kernel) 0 rfl rfl rfl hl.1 rfl (Nat.le_of_ble_eq_true rfl) dL_law_525 (fun u_10 H locs hφ hP hD hS => ?_)
  obtain ⟨hP, hD⟩ := PD.by3 (is := [13, 0, 1, 14, 15, 16, 2, 3, 4, 5, 6, 7, 8, 9, 10, 11, 12]) (y := (GR k a (u9 IR 0 u_10.1.2) LR FR QR VR r)) ⟨hP, hD⟩ (by decide +kernel) rfl rfl
  refine W.eq (g2 := F0 m 528 ls [.long u_10.2.1]) rfl ?_
  refine lv_pop2_2 hx hb dL_law_528 rfl ?_
  refine lv_goto (tgt := 2846) hx hb dL_law_529 rfl ?_
  obtain ⟨hP, hD⟩ := PD.fr5 ⟨hP, hD⟩
  obtain ⟨hP, hD⟩ := PD.fr5 ⟨hP, hD⟩
  obtain ⟨hP, hD⟩ := PD.fr5 ⟨hP, hD⟩
  obtain ⟨hP, hD⟩ := PD.fr5 ⟨hP, hD⟩
  exact hk a (u9 IA 2 u_5.1.2) LA FA QA VA IB LB FB QB VB IC LC FC QC VC ID LD FD QD VD (u9 IR 0 u_10.1.2) LR FR QR VR r H locs ls (show INV _ _ _ _ _ _ _ _ _ _ _ _ _ _ _ from ⟨hWI, hWI_0, hWI_1, hWI_2, hrd, htr0, htr1, htr2, htr3, hrgk, hrgt, hdrc, hev, hmk, hM, hMK, hTI, hFS, htd, hlt, rgH, rgS, rgY, hdr, hit, hmmk, heq, htq, hrel, hbf, htb, hkw, hSK, hSK0, hSK1, hSK2, hNE, hNE0, hNE1, hNE2, hLE, hYE, hQE, hLE0, hLE1, hLE2, hYE0, hYE1, hYE2⟩) hRT hP hD hS (lv_sub hl [0, 1, 2, 3] rfl)
set_option maxHeartbeats 40000000 in
set_option maxRecDepth 100000 in
theorem law_c6 {p : Program} {e : Env} {s : State} {m : MethodId} {below : List Frame} {meth : Method} {c : Code} (l : Launch) {b L : Nat} {xs : Nat → Int32} {A : Nat → Prop} {D : va_G} {k : Nat → ClassId} {sa sv : Nat} {i : Int} (C : LFX p s m meth c b L xs A D k sa sv) (hi : 0 ≤ i ∧ i + 6 ≤ (L : Int)) (hk : LAT p l e s m below meth c b A D k 2846 i) : LAT p l e s m below meth c b A D k 532 i := by
  obtain ⟨hx, hb, hr, hml, hown, hts, hKK, hX, hbl, hbA, hA, hAf, hlocks, hSY, hRR, hL⟩ := id C
  intro a IA LA FA QA VA IB LB FB QB VB IC LC FC QC VC ID LD FD QD VD IR LR FR QR VR r H locs ls hI hRT hP hD hS hl
  have hK := hKK.1
  obtain ⟨hP, hD⟩ : PD D A ((GA k a IA LA FA QA VA r) ++ ((GB k a IB LB FB QB VB r) ++ ((GC k a IC LC FC QC VC r) ++ ((GD k a ID LD FD QD VD r) ++ ((GR k a IR LR FR QR VR r) ++ (r.tl)))))) H := ⟨hP, hD⟩
  obtain ⟨hWI, hWI_0, hWI_1, hWI_2, hrd, htr0, htr1, htr2, htr3, hrgk, hrgt, hdrc, hev, hmk, hM, hMK, hTI, hFS, htd, hlt, rgH, rgS, rgY, hdr, hit, hmmk, heq, htq, hrel, hbf, htb, hkw, hSK, hSK0, hSK1, hSK2, hNE, hNE0, hNE1, hNE2, hLE, hYE, hQE, hLE0, hLE1, hLE2, hYE0, hYE1, hYE2⟩ := id hI
  obtain ⟨gw1, gw2, gw3, gw4, gw5, gw6, gw7, gw8, gw9, gw10, gw11⟩ := id hWI
  have hx0 := gw9
  have hYI := gw11
  have hpf : rgI (FR 3) (-128) 127 900 := fun e h1 h2 => by rw [← htb e h1 h2]; exact hbf e h1 h2
  obtain ⟨z1, hz1, hz1a, hz1b⟩ := i32_z (xs (iZ (i + 1)).toNatClampNeg)
  obtain ⟨z2, hz2, hz2a, hz2b⟩ := i32_z (xs (iZ (i + 2)).toNatClampNeg)
  obtain ⟨z3, hz3, hz3a, hz3b⟩ := i32_z (xs (iZ (i + 3)).toNatClampNeg)
  obtain ⟨z4, hz4, hz4a, hz4b⟩ := i32_z (xs (iZ (i + 4)).toNatClampNeg)
  obtain ⟨z5, hz5, hz5a, hz5b⟩ := i32_z (xs (iZ (i + 5)).toNatClampNeg)
  have hl : lv_has ls 4 [(3, .int (iZ i)), (2, .ref (a 106)), (1, .ref (a 0)), (0, .ref b)] := hl
  have hls := hQE.1
  replace hls : _ := hls
  refine lv_aload_n hx hb dL_law_532 rfl (lv_at hl 2 rfl) ?_
  refine lv_aload_n hx hb dL_law_533 rfl (lv_at hl 3 rfl) ?_
  refine lv_iload_n hx hb dL_law_534 rfl (lv_at hl 0 rfl) ?_
  refine lv_iconst (v := iZ 1) hx hb dL_law_535 rfl ?_
  refine lv_iadd hx hb dL_law_536 ?_
  refine lv_topi (fun x_1 ex_1 => ?_)
  obtain rfl : x_1 = iZ (i + 1) := ex_1.trans (iZ_add i 1)
  refine va_sld hx hb hX hbl hbA hS (zi1 hi hL) dL_law_537 ?_
  refine lv_topi (fun x_2 ex_2 => ?_)
  obtain rfl : x_2 = iZ z1 := ex_2.trans hz1
  refine lv_aload_n hx hb dL_law_538 rfl (lv_at hl 3 rfl) ?_
  refine lv_iload_n hx hb dL_law_539 rfl (lv_at hl 0 rfl) ?_
  refine lv_iconst (v := iZ 2) hx hb dL_law_540 rfl ?_
  refine lv_iadd hx hb dL_law_541 ?_
  refine lv_topi (fun x_3 ex_3 => ?_)
  obtain rfl : x_3 = iZ (i + 2) := ex_3.trans (iZ_add i 2)
  refine va_sld hx hb hX hbl hbA hS (zi2 hi hL) dL_law_542 ?_
  refine lv_topi (fun x_4 ex_4 => ?_)
  obtain rfl : x_4 = iZ z2 := ex_4.trans hz2
  refine lv_aload_n hx hb dL_law_543 rfl (lv_at hl 3 rfl) ?_
  refine lv_iload_n hx hb dL_law_544 rfl (lv_at hl 0 rfl) ?_
  refine lv_iconst (v := iZ 3) hx hb dL_law_545 rfl ?_
  refine lv_iadd hx hb dL_law_546 ?_
  refine lv_topi (fun x_5 ex_5 => ?_)
  obtain rfl : x_5 = iZ (i + 3) := ex_5.trans (iZ_add i 3)
  refine va_sld hx hb hX hbl hbA hS (zi3 hi hL) dL_law_547 ?_
  refine lv_topi (fun x_6 ex_6 => ?_)
  obtain rfl : x_6 = iZ z3 := ex_6.trans hz3
  refine lv_aload_n hx hb dL_law_548 rfl (lv_at hl 3 rfl) ?_
  refine lv_iload_n hx hb dL_law_549 rfl (lv_at hl 0 rfl) ?_
  refine lv_iconst (v := iZ 4) hx hb dL_law_550 rfl ?_
  refine lv_iadd hx hb dL_law_551 ?_
  refine lv_topi (fun x_7 ex_7 => ?_)
  obtain rfl : x_7 = iZ (i + 4) := ex_7.trans (iZ_add i 4)
  refine va_sld hx hb hX hbl hbA hS (zi4 hi hL) dL_law_552 ?_
  refine lv_topi (fun x_8 ex_8 => ?_)
  obtain rfl : x_8 = iZ z4 := ex_8.trans hz4
  refine lv_aload_n hx hb dL_law_553 rfl (lv_at hl 3 rfl) ?_
  refine lv_iload_n hx hb dL_law_554 rfl (lv_at hl 0 rfl) ?_
  refine lv_iconst (v := iZ 5) hx hb dL_law_555 rfl ?_
  refine lv_iadd hx hb dL_law_556 ?_
  refine lv_topi (fun x_9 ex_9 => ?_)
  obtain rfl : x_9 = iZ (i + 5) := ex_9.trans (iZ_add i 5)
  refine va_sld hx hb hX hbl hbA hS (zi5 hi hL) dL_law_557 ?_
  refine lv_topi (fun x_10 ex_10 => ?_)
  obtain rfl : x_10 = iZ z5 := ex_10.trans hz5
  obtain ⟨hP, hD⟩ := PD.swap ⟨hP, hD⟩
  obtain ⟨hP, hD⟩ := PD.swap ⟨hP, hD⟩
  obtain ⟨hP, hD⟩ := PD.sa2 ⟨hP, hD⟩
  refine CKV2 (As := [.int (iZ z1), .int (iZ z2), .int (iZ z3), .int (iZ z4), .int (iZ z5)]) (rest := []) (tl := (GC k a IC LC FC QC VC r) ++ ((GD k a ID LD FD QD VD r) ++ ((GR k a IR LR FR QR VR r) ++ (r.tl)))) hx hb hml hown hts hKK hP hD hS hA (p_pour l D k (a 0) (a 1) (a 2) (a 3) (a 4) (a 5) (a 6) (a 7) (a 8) (a 9) (a 10) (a 11) (IA 0) (IA 1) (IA 2) (LA 0) (LA 1) (fun i => some (a (12 + i))) (a 12) (a 13) (a 14) (a 15) (a 19) (a 20) (a 21) (a 22) (IB 0) (IB 2) (IB 4) (IB 6) (IB 1) (IB 3) (IB 5) (IB 7) (QB 0) (QB 1) (QB 2) (QB 3) z1 z2 z3 z4 z5 rfl rfl rfl rfl ⟨⟨by omega, by omega⟩, ⟨by omega, by omega⟩⟩ ⟨⟨by omega, by omega⟩, ⟨by omega, by omega⟩⟩ ⟨⟨by omega, by omega⟩, ⟨by omega, by omega⟩⟩ ⟨⟨by omega, by omega⟩, ⟨by omega, by omega⟩⟩ ⟨hz1a, hz1b⟩ ⟨hz2a, hz2b⟩ ⟨hz3a, hz3b⟩ ⟨hz4a, hz4b⟩ ⟨hz5a, hz5b⟩) ci_X11_pour qm_L_44 ⟨Nat.le_of_ble_eq_true rfl, Nat.le_of_ble_eq_true rfl⟩ (lroom _) [0, 26, 27, 28, 29, 30, 31, 32, 33, 34] [1, 2, 3, 4, 5, 6, 7, 8, 9, 10, 11, 12, 13, 14, 15, 16, 17, 18, 19, 20, 21, 22, 23, 24, 25] rfl rfl rfl (by decide +kernel) (by decide +kernel) (by decide +kernel) 0 rfl rfl rfl hl.1 rfl (Nat.le_of_ble_eq_true rfl) dL_law_558 (fun u_11 H locs hφ hP hD hS => ?_)
  have p_12 : ((u_11.1.1 : Int) = 1 ∧ (((0 ≤ (z1 : Int) ∧ (z1 : Int) ≤ 3) ∧ (0 ≤ (z3 : Int) ∧ (z3 : Int) ≤ 3) ∧ (0 ≤ z2 ∧ 0 ≤ z4 ∧ 0 ≤ z5)) ∧ (¬ s4 z1 (IB 1) (IB 3) (IB 5) (IB 7) = -1 ∧ ¬ s4 z3 (IB 1) (IB 3) (IB 5) (IB 7) = -1) ∧ s4 z1 (IB 0) (IB 2) (IB 4) (IB 6) = s4 z3 (IB 0) (IB 2) (IB 4) (IB 6) ∧ (z5 ≤ s4 z1 (IB 1) (IB 3) (IB 5) (IB 7) - z2 ∧ z5 ≤ s4 z3 (IB 1) (IB 3) (IB 5) (IB 7) - z4))) ∨ ((u_11.1.1 : Int) = 0 ∧ ¬ (((0 ≤ (z1 : Int) ∧ (z1 : Int) ≤ 3) ∧ (0 ≤ (z3 : Int) ∧ (z3 : Int) ≤ 3) ∧ (0 ≤ z2 ∧ 0 ≤ z4 ∧ 0 ≤ z5)) ∧ (¬ s4 z1 (IB 1) (IB 3) (IB 5) (IB 7) = -1 ∧ ¬ s4 z3 (IB 1) (IB 3) (IB 5) (IB 7) = -1) ∧ s4 z1 (IB 0) (IB 2) (IB 4) (IB 6) = s4 z3 (IB 0) (IB 2) (IB 4) (IB 6) ∧ (z5 ≤ s4 z1 (IB 1) (IB 3) (IB 5) (IB 7) - z2 ∧ z5 ≤ s4 z3 (IB 1) (IB 3) (IB 5) (IB 7) - z4))) := hφ
  obtain ⟨hP, hD⟩ := PD.by3 (is := [25, 0, 1, 2, 3, 4, 5, 6, 7, 8, 9, 10, 11, 12, 13, 14, 15, 16, 17, 18, 19, 20, 21, 22, 23, 24, 26, 27, 28, 29, 30, 31, 32, 33, 34]) (y := (GA k a (u9 IA 2 u_11.1.2) LA FA QA VA r) ++ ((GB k a IB LB FB (u9 (u9 (u9 (u9 QB 0 u_11.2.2.2.1) 1 u_11.2.2.2.2.1) 2 u_11.2.2.2.2.2.1) 3 u_11.2.2.2.2.2.2) VB r))) ⟨hP, hD⟩ (by decide +kernel) rfl rfl
  obtain ⟨hP, hD⟩ := PD.as2 ⟨hP, hD⟩
  refine W.eq (g2 := F0 m 561 ls [.int (iZ u_11.1.1)]) rfl ?_
  replace p_12 : Unit → _ := fun _ => p_12
  refine lv_pop hx hb dL_law_561 rfl ?_
  refine lv_aload_n hx hb dL_law_562 rfl (lv_at hl 1 rfl) ?_
  refine lv_aload_n hx hb dL_law_563 rfl (lv_at hl 3 rfl) ?_
  refine lv_iload_n hx hb dL_law_564 rfl (lv_at hl 0 rfl) ?_
  refine lv_iconst (v := iZ 1) hx hb dL_law_565 rfl ?_
  refine lv_iadd hx hb dL_law_566 ?_
  refine lv_topi (fun x_13 ex_13 => ?_)
  obtain rfl : x_13 = iZ (i + 1) := ex_13.trans (iZ_add i 1)
  refine va_sld hx hb hX hbl hbA hS (zi1 hi hL) dL_law_567 ?_
  refine lv_topi (fun x_14 ex_14 => ?_)
  obtain rfl : x_14 = iZ z1 := ex_14.trans hz1
  refine lv_aload_n hx hb dL_law_568 rfl (lv_at hl 3 rfl) ?_
  refine lv_iload_n hx hb dL_law_569 rfl (lv_at hl 0 rfl) ?_
  refine lv_iconst (v := iZ 2) hx hb dL_law_570 rfl ?_
  refine lv_iadd hx hb dL_law_571 ?_
  refine lv_topi (fun x_15 ex_15 => ?_)
  obtain rfl : x_15 = iZ (i + 2) := ex_15.trans (iZ_add i 2)
  refine va_sld hx hb hX hbl hbA hS (zi2 hi hL) dL_law_572 ?_
  refine lv_topi (fun x_16 ex_16 => ?_)
  obtain rfl : x_16 = iZ z2 := ex_16.trans hz2
  refine lv_aload_n hx hb dL_law_573 rfl (lv_at hl 3 rfl) ?_
  refine lv_iload_n hx hb dL_law_574 rfl (lv_at hl 0 rfl) ?_
  refine lv_iconst (v := iZ 3) hx hb dL_law_575 rfl ?_
  refine lv_iadd hx hb dL_law_576 ?_
  refine lv_topi (fun x_17 ex_17 => ?_)
  obtain rfl : x_17 = iZ (i + 3) := ex_17.trans (iZ_add i 3)
  refine va_sld hx hb hX hbl hbA hS (zi3 hi hL) dL_law_577 ?_
  refine lv_topi (fun x_18 ex_18 => ?_)
  obtain rfl : x_18 = iZ z3 := ex_18.trans hz3
  refine lv_aload_n hx hb dL_law_578 rfl (lv_at hl 3 rfl) ?_
  refine lv_iload_n hx hb dL_law_579 rfl (lv_at hl 0 rfl) ?_
  refine lv_iconst (v := iZ 4) hx hb dL_law_580 rfl ?_
  refine lv_iadd hx hb dL_law_581 ?_
  refine lv_topi (fun x_19 ex_19 => ?_)
  obtain rfl : x_19 = iZ (i + 4) := ex_19.trans (iZ_add i 4)
  refine va_sld hx hb hX hbl hbA hS (zi4 hi hL) dL_law_582 ?_
  refine lv_topi (fun x_20 ex_20 => ?_)
  obtain rfl : x_20 = iZ z4 := ex_20.trans hz4
  refine lv_aload_n hx hb dL_law_583 rfl (lv_at hl 3 rfl) ?_
  refine lv_iload_n hx hb dL_law_584 rfl (lv_at hl 0 rfl) ?_
  refine lv_iconst (v := iZ 5) hx hb dL_law_585 rfl ?_
  refine lv_iadd hx hb dL_law_586 ?_
  refine lv_topi (fun x_21 ex_21 => ?_)
  obtain rfl : x_21 = iZ (i + 5) := ex_21.trans (iZ_add i 5)
  refine va_sld hx hb hX hbl hbA hS (zi5 hi hL) dL_law_587 ?_
  refine lv_topi (fun x_22 ex_22 => ?_)
  obtain rfl : x_22 = iZ z5 := ex_22.trans hz5
  obtain ⟨hP, hD⟩ := PD.fr5 ⟨hP, hD⟩
  refine CKV2 (As := [.int (iZ z1), .int (iZ z2), .int (iZ z3), .int (iZ z4), .int (iZ z5)]) (rest := []) (tl := (GA k a (u9 IA 2 u_11.1.2) LA FA QA VA r) ++ ((GB k a IB LB FB (u9 (u9 (u9 (u9 QB 0 u_11.2.2.2.1) 1 u_11.2.2.2.2.1) 2 u_11.2.2.2.2.2.1) 3 u_11.2.2.2.2.2.2) VB r) ++ ((GC k a IC LC FC QC VC r) ++ ((GD k a ID LD FD QD VD r) ++ (r.tl))))) hx hb hml hown hts hKK hP hD hS hA (q_pour l D k (a 106) (a 107) (a 108) (a 109) (a 110) (a 111) (a 112) (a 113) (a 114) (a 115) (a 116) (a 117) (a 118) (a 119) (a 120) (a 121) (a 122) (IR 0) (IR 1) (IR 2) (IR 3) (IR 4) (IR 5) (IR 6) (IR 7) (IR 8) (IR 9) (IR 10) (IR 11) (IR 12) (IR 13) (IR 14) (IR 15) (IR 16) (IR 17) (LR 0) (LR 1) (FR 1) (FR 2) (QR 1) z1 z2 z3 z4 z5 rgS rgY ⟨hz1a, hz1b⟩ ⟨hz2a, hz2b⟩ ⟨hz3a, hz3b⟩ ⟨hz4a, hz4b⟩ ⟨hz5a, hz5b⟩) ci_X12_pour qm_L_48 ⟨Nat.le_of_ble_eq_true rfl, Nat.le_of_ble_eq_true rfl⟩ (lroom _) [0, 3, 4, 5] [1, 2, 6, 7, 8, 9, 10, 11, 12, 13, 14, 15, 16] rfl rfl rfl (by decide +kernel) (by decide +kernel) (by decide +kernel) 0 rfl rfl rfl hl.1 rfl (Nat.le_of_ble_eq_true rfl) dL_law_588 (fun u_23 H locs hφ hP hD hS => ?_)
  have p_24 : ((u_23.1.1 : Int) = 1 ∧ (((0 ≤ z1 ∧ z1 ≤ 3) ∧ (0 ≤ z3 ∧ z3 ≤ 3) ∧ (0 ≤ z2 ∧ 0 ≤ z4 ∧ 0 ≤ z5)) ∧ (¬ gz (FR 2) z1 = -1 ∧ ¬ gz (FR 2) z3 = -1) ∧ gz (FR 1) z1 = gz (FR 1) z3 ∧ (z5 ≤ gz (FR 2) z1 - z2 ∧ z5 ≤ gz (FR 2) z3 - z4))) ∨ ((u_23.1.1 : Int) = 0 ∧ ¬ (((0 ≤ z1 ∧ z1 ≤ 3) ∧ (0 ≤ z3 ∧ z3 ≤ 3) ∧ (0 ≤ z2 ∧ 0 ≤ z4 ∧ 0 ≤ z5)) ∧ (¬ gz (FR 2) z1 = -1 ∧ ¬ gz (FR 2) z3 = -1) ∧ gz (FR 1) z1 = gz (FR 1) z3 ∧ (z5 ≤ gz (FR 2) z1 - z2 ∧ z5 ≤ gz (FR 2) z3 - z4))) := hφ
  obtain ⟨hP, hD⟩ := PD.by3 (is := [13, 0, 1, 14, 15, 16, 2, 3, 4, 5, 6, 7, 8, 9, 10, 11, 12]) (y := (GR k a (u9 IR 0 u_23.1.2) LR FR (u9 QR 1 u_23.2.2.2) VR r)) ⟨hP, hD⟩ (by decide +kernel) rfl rfl
  refine W.eq (g2 := F0 m 591 ls [.int (iZ u_23.1.1)]) rfl ?_
  replace p_24 : Unit → _ := fun _ => p_24
  refine lv_pop hx hb dL_law_591 rfl ?_
  refine lv_goto (tgt := 2846) hx hb dL_law_592 rfl ?_
  obtain ⟨hP, hD⟩ := PD.fr5 ⟨hP, hD⟩
  obtain ⟨hP, hD⟩ := PD.fr5 ⟨hP, hD⟩
  obtain ⟨hP, hD⟩ := PD.fr5 ⟨hP, hD⟩
  obtain ⟨hP, hD⟩ := PD.fr5 ⟨hP, hD⟩
  exact hk a (u9 IA 2 u_11.1.2) LA FA QA VA IB LB FB (u9 (u9 (u9 (u9 QB 0 u_11.2.2.2.1) 1 u_11.2.2.2.2.1) 2 u_11.2.2.2.2.2.1) 3 u_11.2.2.2.2.2.2) VB IC LC FC QC VC ID LD FD QD VD (u9 IR 0 u_23.1.2) LR FR (u9 QR 1 u_23.2.2.2) VR r H locs ls (show INV _ _ _ _ _ _ _ _ _ _ _ _ _ _ _ from ⟨hWI, hWI_0, hWI_1, hWI_2, hrd, htr0, htr1, htr2, htr3, hrgk, hrgt, hdrc, hev, hmk, hM, hMK, hTI, hFS, htd, hlt, rgH, rgS, rgY, hdr, hit, hmmk, heq, htq, hrel, hbf, htb, hkw, hSK, hSK0, hSK1, hSK2, hNE, hNE0, hNE1, hNE2, hLE, hYE, hQE, hLE0, hLE1, hLE2, hYE0, hYE1, hYE2⟩) hRT hP hD hS (lv_sub hl [0, 1, 2, 3] rfl)
set_option maxHeartbeats 40000000 in
set_option maxRecDepth 100000 in
theorem law_c7 {p : Program} {e : Env} {s : State} {m : MethodId} {below : List Frame} {meth : Method} {c : Code} (l : Launch) {b L : Nat} {xs : Nat → Int32} {A : Nat → Prop} {D : va_G} {k : Nat → ClassId} {sa sv : Nat} {i : Int} (C : LFX p s m meth c b L xs A D k sa sv) (hi : 0 ≤ i ∧ i + 6 ≤ (L : Int)) (hk : LAT p l e s m below meth c b A D k 2846 i) : LAT p l e s m below meth c b A D k 595 i := by
  obtain ⟨hx, hb, hr, hml, hown, hts, hKK, hX, hbl, hbA, hA, hAf, hlocks, hSY, hRR, hL⟩ := id C
  intro a IA LA FA QA VA IB LB FB QB VB IC LC FC QC VC ID LD FD QD VD IR LR FR QR VR r H locs ls hI hRT hP hD hS hl
  have hK := hKK.1
  obtain ⟨hP, hD⟩ : PD D A ((GA k a IA LA FA QA VA r) ++ ((GB k a IB LB FB QB VB r) ++ ((GC k a IC LC FC QC VC r) ++ ((GD k a ID LD FD QD VD r) ++ ((GR k a IR LR FR QR VR r) ++ (r.tl)))))) H := ⟨hP, hD⟩
  obtain ⟨hWI, hWI_0, hWI_1, hWI_2, hrd, htr0, htr1, htr2, htr3, hrgk, hrgt, hdrc, hev, hmk, hM, hMK, hTI, hFS, htd, hlt, rgH, rgS, rgY, hdr, hit, hmmk, heq, htq, hrel, hbf, htb, hkw, hSK, hSK0, hSK1, hSK2, hNE, hNE0, hNE1, hNE2, hLE, hYE, hQE, hLE0, hLE1, hLE2, hYE0, hYE1, hYE2⟩ := id hI
  obtain ⟨gw1, gw2, gw3, gw4, gw5, gw6, gw7, gw8, gw9, gw10, gw11⟩ := id hWI
  have hx0 := gw9
  have hYI := gw11
  have hpf : rgI (FR 3) (-128) 127 900 := fun e h1 h2 => by rw [← htb e h1 h2]; exact hbf e h1 h2
  obtain ⟨z1, hz1, hz1a, hz1b⟩ := i32_z (xs (iZ (i + 1)).toNatClampNeg)
  obtain ⟨z2, hz2, hz2a, hz2b⟩ := i32_z (xs (iZ (i + 2)).toNatClampNeg)
  obtain ⟨z3, hz3, hz3a, hz3b⟩ := i32_z (xs (iZ (i + 3)).toNatClampNeg)
  obtain ⟨z4, hz4, hz4a, hz4b⟩ := i32_z (xs (iZ (i + 4)).toNatClampNeg)
  obtain ⟨z5, hz5, hz5a, hz5b⟩ := i32_z (xs (iZ (i + 5)).toNatClampNeg)
  have hl : lv_has ls 4 [(3, .int (iZ i)), (2, .ref (a 106)), (1, .ref (a 0)), (0, .ref b)] := hl
  have hls := hQE.1
  replace hls : _ := hls
  refine lv_aload_n hx hb dL_law_595 rfl (lv_at hl 2 rfl) ?_
  refine lv_aload_n hx hb dL_law_596 rfl (lv_at hl 3 rfl) ?_
  refine lv_iload_n hx hb dL_law_597 rfl (lv_at hl 0 rfl) ?_
  refine lv_iconst (v := iZ 1) hx hb dL_law_598 rfl ?_
  refine lv_iadd hx hb dL_law_599 ?_
  refine lv_topi (fun x_1 ex_1 => ?_)
  obtain rfl : x_1 = iZ (i + 1) := ex_1.trans (iZ_add i 1)
  refine va_sld hx hb hX hbl hbA hS (zi1 hi hL) dL_law_600 ?_
  refine lv_topi (fun x_2 ex_2 => ?_)
  obtain rfl : x_2 = iZ z1 := ex_2.trans hz1
  refine lv_aload_n hx hb dL_law_601 rfl (lv_at hl 3 rfl) ?_
  refine lv_iload_n hx hb dL_law_602 rfl (lv_at hl 0 rfl) ?_
  refine lv_iconst (v := iZ 2) hx hb dL_law_603 rfl ?_
  refine lv_iadd hx hb dL_law_604 ?_
  refine lv_topi (fun x_3 ex_3 => ?_)
  obtain rfl : x_3 = iZ (i + 2) := ex_3.trans (iZ_add i 2)
  refine va_sld hx hb hX hbl hbA hS (zi2 hi hL) dL_law_605 ?_
  refine lv_topi (fun x_4 ex_4 => ?_)
  obtain rfl : x_4 = iZ z2 := ex_4.trans hz2
  refine lv_aload_n hx hb dL_law_606 rfl (lv_at hl 3 rfl) ?_
  refine lv_iload_n hx hb dL_law_607 rfl (lv_at hl 0 rfl) ?_
  refine lv_iconst (v := iZ 3) hx hb dL_law_608 rfl ?_
  refine lv_iadd hx hb dL_law_609 ?_
  refine lv_topi (fun x_5 ex_5 => ?_)
  obtain rfl : x_5 = iZ (i + 3) := ex_5.trans (iZ_add i 3)
  refine va_sld hx hb hX hbl hbA hS (zi3 hi hL) dL_law_610 ?_
  refine lv_topi (fun x_6 ex_6 => ?_)
  obtain rfl : x_6 = iZ z3 := ex_6.trans hz3
  refine lv_aload_n hx hb dL_law_611 rfl (lv_at hl 3 rfl) ?_
  refine lv_iload_n hx hb dL_law_612 rfl (lv_at hl 0 rfl) ?_
  refine lv_iconst (v := iZ 4) hx hb dL_law_613 rfl ?_
  refine lv_iadd hx hb dL_law_614 ?_
  refine lv_topi (fun x_7 ex_7 => ?_)
  obtain rfl : x_7 = iZ (i + 4) := ex_7.trans (iZ_add i 4)
  refine va_sld hx hb hX hbl hbA hS (zi4 hi hL) dL_law_615 ?_
  refine lv_topi (fun x_8 ex_8 => ?_)
  obtain rfl : x_8 = iZ z4 := ex_8.trans hz4
  refine lv_aload_n hx hb dL_law_616 rfl (lv_at hl 3 rfl) ?_
  refine lv_iload_n hx hb dL_law_617 rfl (lv_at hl 0 rfl) ?_
  refine lv_iconst (v := iZ 5) hx hb dL_law_618 rfl ?_
  refine lv_iadd hx hb dL_law_619 ?_
  refine lv_topi (fun x_9 ex_9 => ?_)
  obtain rfl : x_9 = iZ (i + 5) := ex_9.trans (iZ_add i 5)
  refine va_sld hx hb hX hbl hbA hS (zi5 hi hL) dL_law_620 ?_
  refine lv_topi (fun x_10 ex_10 => ?_)
  obtain rfl : x_10 = iZ z5 := ex_10.trans hz5
  obtain ⟨hP, hD⟩ := PD.fr3 ⟨hP, hD⟩
  obtain ⟨hP, hD⟩ := PD.swap ⟨hP, hD⟩
  obtain ⟨hP, hD⟩ := PD.sa2 ⟨hP, hD⟩
  refine CKV2 (As := [.int (iZ z1), .int (iZ z2), .int (iZ z3), .int (iZ z4), .int (iZ z5)]) (rest := []) (tl := (GB k a IB LB FB QB VB r) ++ ((GD k a ID LD FD QD VD r) ++ ((GR k a IR LR FR QR VR r) ++ (r.tl)))) hx hb hml hown hts hKK hP hD hS hA (x_feed l D k (a 0) (a 1) (a 2) (a 3) (a 4) (a 5) (a 6) (a 7) (a 8) (a 9) (a 10) (a 11) (IA 0) (IA 1) (IA 2) (LA 0) (LA 1) (a 98) (a 99) (IC 0) (IC 1) (IC 2) (IC 3) (IC 4) (IC 5) (IC 6) (IC 7) (IC 8) (LC 0) (FC 0) (QC 0) z1 z2 z3 z4 z5 (by first | with_reducible assumption | omega)) ci_X11_feed qm_L_49 ⟨Nat.le_of_ble_eq_true rfl, Nat.le_of_ble_eq_true rfl⟩ (lroom _) [0, 26, 27, 28] [1, 2, 3, 4, 5, 6, 7, 8, 9, 10, 11, 12, 13, 14, 15, 16, 17, 18, 19, 20, 21, 22, 23, 24, 25, 29, 30, 31, 32, 33, 34, 35, 36, 37, 38, 39, 40, 41, 42, 43, 44, 45, 46, 47] rfl rfl rfl (by decide +kernel) (by decide +kernel) (by decide +kernel) 0 rfl rfl rfl hl.1 rfl (Nat.le_of_ble_eq_true rfl) dL_law_621 (fun u_11 H locs hφ hP hD hS => ?_)
  have p_12 : ((IC 0) > 880 ∧ u_11.1.1 = -1 ∧ u_11.1.2 = (IC 0) ∧ u_11.2.2.1 = (FC 0)) ∨ ((IC 0) ≤ 880 ∧ u_11.1.1 = (IC 0) + 20 ∧ u_11.1.2 = (IC 0) + 20 ∧ xRw u_11.2.2.1 (fd5 (gz (FC 0)) (IC 0) z1 z2 z3 z4 z5) 900) := hφ
  obtain ⟨hP, hD⟩ := PD.by3 (is := [44, 0, 1, 2, 3, 4, 5, 6, 7, 8, 9, 10, 11, 12, 13, 14, 15, 16, 17, 18, 19, 20, 21, 22, 23, 24, 45, 46, 47, 25, 26, 27, 28, 29, 30, 31, 32, 33, 34, 35, 36, 37, 38, 39, 40, 41, 42, 43]) (y := (GA k a IA LA FA QA VA r) ++ ((GC k a (u9 IC 0 u_11.1.2) LC (u9 FC 0 u_11.2.2.1) QC VC r))) ⟨hP, hD⟩ (by decide +kernel) rfl rfl
  obtain ⟨hP, hD⟩ := PD.as2 ⟨hP, hD⟩
  refine W.eq (g2 := F0 m 624 ls [.int (iZ u_11.1.1)]) rfl ?_
  refine lv_pop hx hb dL_law_624 rfl ?_
  refine lv_aload_n hx hb dL_law_625 rfl (lv_at hl 1 rfl) ?_
  refine lv_aload_n hx hb dL_law_626 rfl (lv_at hl 3 rfl) ?_
  refine lv_iload_n hx hb dL_law_627 rfl (lv_at hl 0 rfl) ?_
  refine lv_iconst (v := iZ 1) hx hb dL_law_628 rfl ?_
  refine lv_iadd hx hb dL_law_629 ?_
  refine lv_topi (fun x_13 ex_13 => ?_)
  obtain rfl : x_13 = iZ (i + 1) := ex_13.trans (iZ_add i 1)
  refine va_sld hx hb hX hbl hbA hS (zi1 hi hL) dL_law_630 ?_
  refine lv_topi (fun x_14 ex_14 => ?_)
  obtain rfl : x_14 = iZ z1 := ex_14.trans hz1
  refine lv_aload_n hx hb dL_law_631 rfl (lv_at hl 3 rfl) ?_
  refine lv_iload_n hx hb dL_law_632 rfl (lv_at hl 0 rfl) ?_
  refine lv_iconst (v := iZ 2) hx hb dL_law_633 rfl ?_
  refine lv_iadd hx hb dL_law_634 ?_
  refine lv_topi (fun x_15 ex_15 => ?_)
  obtain rfl : x_15 = iZ (i + 2) := ex_15.trans (iZ_add i 2)
  refine va_sld hx hb hX hbl hbA hS (zi2 hi hL) dL_law_635 ?_
  refine lv_topi (fun x_16 ex_16 => ?_)
  obtain rfl : x_16 = iZ z2 := ex_16.trans hz2
  refine lv_aload_n hx hb dL_law_636 rfl (lv_at hl 3 rfl) ?_
  refine lv_iload_n hx hb dL_law_637 rfl (lv_at hl 0 rfl) ?_
  refine lv_iconst (v := iZ 3) hx hb dL_law_638 rfl ?_
  refine lv_iadd hx hb dL_law_639 ?_
  refine lv_topi (fun x_17 ex_17 => ?_)
  obtain rfl : x_17 = iZ (i + 3) := ex_17.trans (iZ_add i 3)
  refine va_sld hx hb hX hbl hbA hS (zi3 hi hL) dL_law_640 ?_
  refine lv_topi (fun x_18 ex_18 => ?_)
  obtain rfl : x_18 = iZ z3 := ex_18.trans hz3
  refine lv_aload_n hx hb dL_law_641 rfl (lv_at hl 3 rfl) ?_
  refine lv_iload_n hx hb dL_law_642 rfl (lv_at hl 0 rfl) ?_
  refine lv_iconst (v := iZ 4) hx hb dL_law_643 rfl ?_
  refine lv_iadd hx hb dL_law_644 ?_
  refine lv_topi (fun x_19 ex_19 => ?_)
  obtain rfl : x_19 = iZ (i + 4) := ex_19.trans (iZ_add i 4)
  refine va_sld hx hb hX hbl hbA hS (zi4 hi hL) dL_law_645 ?_
  refine lv_topi (fun x_20 ex_20 => ?_)
  obtain rfl : x_20 = iZ z4 := ex_20.trans hz4
  refine lv_aload_n hx hb dL_law_646 rfl (lv_at hl 3 rfl) ?_
  refine lv_iload_n hx hb dL_law_647 rfl (lv_at hl 0 rfl) ?_
  refine lv_iconst (v := iZ 5) hx hb dL_law_648 rfl ?_
  refine lv_iadd hx hb dL_law_649 ?_
  refine lv_topi (fun x_21 ex_21 => ?_)
  obtain rfl : x_21 = iZ (i + 5) := ex_21.trans (iZ_add i 5)
  refine va_sld hx hb hX hbl hbA hS (zi5 hi hL) dL_law_650 ?_
  refine lv_topi (fun x_22 ex_22 => ?_)
  obtain rfl : x_22 = iZ z5 := ex_22.trans hz5
  obtain ⟨hP, hD⟩ := PD.fr5 ⟨hP, hD⟩
  refine CKV2 (As := [.int (iZ z1), .int (iZ z2), .int (iZ z3), .int (iZ z4), .int (iZ z5)]) (rest := []) (tl := (GA k a IA LA FA QA VA r) ++ ((GC k a (u9 IC 0 u_11.1.2) LC (u9 FC 0 u_11.2.2.1) QC VC r) ++ ((GB k a IB LB FB QB VB r) ++ ((GD k a ID LD FD QD VD r) ++ (r.tl))))) hx hb hml hown hts hKK hP hD hS hA (y_feed l D k (a 106) (a 107) (a 108) (a 109) (a 110) (a 111) (a 112) (a 113) (a 114) (a 115) (a 116) (a 117) (a 118) (a 119) (a 120) (a 121) (a 122) (IR 0) (IR 1) (IR 2) (IR 3) (IR 4) (IR 5) (IR 6) (IR 7) (IR 8) (IR 9) (IR 10) (IR 11) (IR 12) (IR 13) (IR 14) (IR 15) (IR 16) (IR 17) (LR 0) (LR 1) (FR 3) z1 z2 z3 z4 z5 (by first | with_reducible assumption | omega)) ci_X12_feed qm_L_53 ⟨Nat.le_of_ble_eq_true rfl, Nat.le_of_ble_eq_true rfl⟩ (lroom _) [0, 6] [1, 2, 3, 4, 5, 7, 8, 9, 10, 11, 12, 13, 14, 15, 16] rfl rfl rfl (by decide +kernel) (by decide +kernel) (by decide +kernel) 0 rfl rfl rfl hl.1 rfl (Nat.le_of_ble_eq_true rfl) dL_law_651 (fun u_23 H locs hφ hP hD hS => ?_)
  have p_24 : ((IR 1) > 880 ∧ u_23.1.1 = -1 ∧ u_23.1.2 = (IR 1) ∧ u_23.2.2.1 = (FR 3)) ∨ ((IR 1) ≤ 880 ∧ u_23.1.1 = (IR 1) + 20 ∧ u_23.1.2 = (IR 1) + 20 ∧ xRw u_23.2.2.1 (fd5 (gz (FR 3)) (IR 1) z1 z2 z3 z4 z5) 900) := hφ
  obtain ⟨hP, hD⟩ := PD.by3 (is := [15, 0, 1, 2, 3, 4, 16, 5, 6, 7, 8, 9, 10, 11, 12, 13, 14]) (y := (GR k a (u9 IR 1 u_23.1.2) LR (u9 FR 3 u_23.2.2.1) QR VR r)) ⟨hP, hD⟩ (by decide +kernel) rfl rfl
  refine W.eq (g2 := F0 m 654 ls [.int (iZ u_23.1.1)]) rfl ?_
  refine lv_pop hx hb dL_law_654 rfl ?_
  refine lv_goto (tgt := 2846) hx hb dL_law_655 rfl ?_
  obtain ⟨hP, hD⟩ := PD.fr5 ⟨hP, hD⟩
  obtain ⟨hP, hD⟩ := PD.fr4 ⟨hP, hD⟩
  obtain ⟨hP, hD⟩ := PD.fr5 ⟨hP, hD⟩
  obtain ⟨hP, hD⟩ := PD.fr5 ⟨hP, hD⟩
  exact hk a IA LA FA QA VA IB LB FB QB VB (u9 IC 0 u_11.1.2) LC (u9 FC 0 u_11.2.2.1) QC VC ID LD FD QD VD (u9 IR 1 u_23.1.2) LR (u9 FR 3 u_23.2.2.1) QR VR r H locs ls (show INV _ _ _ _ _ _ _ _ _ _ _ _ _ _ _ from ⟨hWI, hWI_0, hWI_1, hWI_2, (show (0 ≤ u_11.1.2 ∧ u_11.1.2 ≤ 900) ∧ (0 ≤ (IC 1) ∧ (IC 1) ≤ 900) ∧ (0 ≤ (IC 2) ∧ (IC 2) ≤ (IC 3)) ∧ ((IC 3) ≤ (IC 1)) ∧ (0 ≤ (IC 4) ∧ (IC 4) ≤ 4) ∧ (-2147483648 ≤ (IC 5) ∧ (IC 5) < 2147483648) ∧ (-1 ≤ (IC 6) ∧ (IC 6) ≤ 24) from (by first | with_reducible assumption | exact ⟨⟨by omega, by omega⟩, ⟨by omega, by omega⟩, ⟨by omega, by omega⟩, by omega, ⟨by omega, by omega⟩, ⟨by omega, by omega⟩, by omega, by omega⟩)), htr0, htr1, htr2, htr3, hrgk, hrgt, hdrc, hev, hmk, hM, hMK, hTI, hFS, (show 0 ≤ u_23.1.2 ∧ u_23.1.2 ≤ 900 from (by first | with_reducible assumption | omega)), hlt, rgH, rgS, rgY, hdr, hit, hmmk, heq, (show u_11.1.2 = u_23.1.2 from (by first | with_reducible assumption | omega)), hrel, (show rgI u_11.2.2.1 (-128) 127 900 from fd_rg p_12 hbf), (show ∀ e : Int, 0 ≤ e → e < 900 → gz u_11.2.2.1 e = gz u_23.2.2.1 e from fd_eq htq p_12 p_24 htb), hkw, hSK, hSK0, hSK1, hSK2, hNE, hNE0, hNE1, hNE2, hLE, hYE, hQE, hLE0, hLE1, hLE2, hYE0, hYE1, hYE2⟩) hRT hP hD hS (lv_sub hl [0, 1, 2, 3] rfl)
end
