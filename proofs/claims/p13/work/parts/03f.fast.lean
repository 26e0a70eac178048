theorem fq_of {cc : ByteArray} {pc n : Nat} {i : Instr} (h : (Jvm.ClassFile.Decoder.instr pc) cc pc = .ok (i, n)) : decode cc pc = .ok (i, n - pc) := by
  unfold decode
  have h' : Jvm.ClassFile.Reader.runAt (Jvm.ClassFile.Decoder.instr pc) cc pc = .ok (i, n) := h
  rw [h']
  rfl
theorem fq_c {cc : ByteArray} {p : Nat} {b : UInt8} (h : cc.data.toList[p]? = some b) : ∃ hs : p < cc.size, cc[p]'hs = b := by
  obtain ⟨hs, e⟩ := List.getElem?_eq_some_iff.mp h
  exact ⟨hs, e⟩
theorem fq_u1 {cc : ByteArray} {p n : Nat} {b : UInt8} (h : cc.data.toList[p]? = some b) (hn : b.toNat = n) : (Jvm.ClassFile.Reader.u1 : Jvm.ClassFile.Decoder Nat) cc p = .ok (n, p + 1) := by
  obtain ⟨hs, hb⟩ := fq_c h
  subst hn
  subst hb
  show (dite (p < cc.size) (fun h : p < cc.size => ((do set (p + 1); pure (cc[p]'h).toNat) : Jvm.ClassFile.Decoder Nat)) (fun _ => throw (Jvm.ClassFile.HasTruncated.truncated p))) cc p = _
  rw [dif_pos hs]
  rfl
theorem fq_b {α β : Type} {r : Jvm.ClassFile.Decoder α} {f : α → Jvm.ClassFile.Decoder β} {cc : ByteArray} {p q : Nat} {a : α} {x : Except Jvm.ClassFile.DecodeError (β × Nat)} (h : r cc p = .ok (a, q)) (k : f a cc q = x) : (r >>= f) cc p = x := by
  show Except.bind (r cc p) (fun y => f y.1 cc y.2) = x
  rw [h]
  exact k
theorem fq_m {α β : Type} {r : Jvm.ClassFile.Decoder α} {f : α → β} {cc : ByteArray} {p q : Nat} {a : α} (h : r cc p = .ok (a, q)) : (f <$> r) cc p = .ok (f a, q) := by
  show Except.bind (r cc p) (fun y => .ok (f y.1, y.2)) = _
  rw [h]
  rfl
theorem fq_u2 {cc : ByteArray} {p : Nat} {x y : UInt8} (h0 : cc.data.toList[p]? = some x) (h1 : cc.data.toList[p + 1]? = some y) : (Jvm.ClassFile.Reader.u2 : Jvm.ClassFile.Decoder Nat) cc p = .ok (x.toNat * 256 + y.toNat, p + 2) := by
  unfold Jvm.ClassFile.Reader.u2
  exact fq_b (fq_u1 h0 rfl) (fq_b (fq_u1 h1 rfl) rfl)
theorem fq_l {l s : List UInt8} {o n p j : Nat} {b : UInt8} (hs : (l.drop o).take n = s) (e : p = o + j) (h : s[j]? = some b) : l[p]? = some b := by
  rw [e, ← List.getElem?_drop]
  rw [← hs, List.getElem?_take] at h
  split at h
  · exact h
  · exact absurd h (by simp)
theorem fq1_29 {cc : ByteArray} {pc : Nat} (h : cc.data.toList[pc]? = some (29 : UInt8)) : decode cc pc = .ok (.iload_n 3, 1) := by
  have e0 : (Jvm.ClassFile.Decoder.instr pc) cc pc = .ok (.iload_n 3, pc + 1) := by
    unfold Jvm.ClassFile.Decoder.instr
    exact fq_b (fq_u1 (n := 29) h rfl) rfl
  have e := fq_of e0
  rw [Nat.add_sub_cancel_left] at e
  exact e
theorem fq1_42 {cc : ByteArray} {pc : Nat} (h : cc.data.toList[pc]? = some (42 : UInt8)) : decode cc pc = .ok (.aload_n 0, 1) := by
  have e0 : (Jvm.ClassFile.Decoder.instr pc) cc pc = .ok (.aload_n 0, pc + 1) := by
    unfold Jvm.ClassFile.Decoder.instr
    exact fq_b (fq_u1 (n := 42) h rfl) rfl
  have e := fq_of e0
  rw [Nat.add_sub_cancel_left] at e
  exact e
theorem fq1_46 {cc : ByteArray} {pc : Nat} (h : cc.data.toList[pc]? = some (46 : UInt8)) : decode cc pc = .ok (.iaload, 1) := by
  have e0 : (Jvm.ClassFile.Decoder.instr pc) cc pc = .ok (.iaload, pc + 1) := by
    unfold Jvm.ClassFile.Decoder.instr
    exact fq_b (fq_u1 (n := 46) h rfl) rfl
  have e := fq_of e0
  rw [Nat.add_sub_cancel_left] at e
  exact e
theorem fq1_96 {cc : ByteArray} {pc : Nat} (h : cc.data.toList[pc]? = some (96 : UInt8)) : decode cc pc = .ok (.iadd, 1) := by
  have e0 : (Jvm.ClassFile.Decoder.instr pc) cc pc = .ok (.iadd, pc + 1) := by
    unfold Jvm.ClassFile.Decoder.instr
    exact fq_b (fq_u1 (n := 96) h rfl) rfl
  have e := fq_of e0
  rw [Nat.add_sub_cancel_left] at e
  exact e
theorem fq1_3 {cc : ByteArray} {pc : Nat} (h : cc.data.toList[pc]? = some (3 : UInt8)) : decode cc pc = .ok (.iconst 0, 1) := by
  have e0 : (Jvm.ClassFile.Decoder.instr pc) cc pc = .ok (.iconst 0, pc + 1) := by
    unfold Jvm.ClassFile.Decoder.instr
    exact fq_b (fq_u1 (n := 3) h rfl) rfl
  have e := fq_of e0
  rw [Nat.add_sub_cancel_left] at e
  exact e
theorem fq1_4 {cc : ByteArray} {pc : Nat} (h : cc.data.toList[pc]? = some (4 : UInt8)) : decode cc pc = .ok (.iconst 1, 1) := by
  have e0 : (Jvm.ClassFile.Decoder.instr pc) cc pc = .ok (.iconst 1, pc + 1) := by
    unfold Jvm.ClassFile.Decoder.instr
    exact fq_b (fq_u1 (n := 4) h rfl) rfl
  have e := fq_of e0
  rw [Nat.add_sub_cancel_left] at e
  exact e
theorem fq1_5 {cc : ByteArray} {pc : Nat} (h : cc.data.toList[pc]? = some (5 : UInt8)) : decode cc pc = .ok (.iconst 2, 1) := by
  have e0 : (Jvm.ClassFile.Decoder.instr pc) cc pc = .ok (.iconst 2, pc + 1) := by
    unfold Jvm.ClassFile.Decoder.instr
    exact fq_b (fq_u1 (n := 5) h rfl) rfl
  have e := fq_of e0
  rw [Nat.add_sub_cancel_left] at e
  exact e
theorem fq1_6 {cc : ByteArray} {pc : Nat} (h : cc.data.toList[pc]? = some (6 : UInt8)) : decode cc pc = .ok (.iconst 3, 1) := by
  have e0 : (Jvm.ClassFile.Decoder.instr pc) cc pc = .ok (.iconst 3, pc + 1) := by
    unfold Jvm.ClassFile.Decoder.instr
    exact fq_b (fq_u1 (n := 6) h rfl) rfl
  have e := fq_of e0
  rw [Nat.add_sub_cancel_left] at e
  exact e
theorem fq1_7 {cc : ByteArray} {pc : Nat} (h : cc.data.toList[pc]? = some (7 : UInt8)) : decode cc pc = .ok (.iconst 4, 1) := by
  have e0 : (Jvm.ClassFile.Decoder.instr pc) cc pc = .ok (.iconst 4, pc + 1) := by
    unfold Jvm.ClassFile.Decoder.instr
    exact fq_b (fq_u1 (n := 7) h rfl) rfl
  have e := fq_of e0
  rw [Nat.add_sub_cancel_left] at e
  exact e
theorem fq1_121 {cc : ByteArray} {pc : Nat} (h : cc.data.toList[pc]? = some (121 : UInt8)) : decode cc pc = .ok (.lshl, 1) := by
  have e0 : (Jvm.ClassFile.Decoder.instr pc) cc pc = .ok (.lshl, pc + 1) := by
    unfold Jvm.ClassFile.Decoder.instr
    exact fq_b (fq_u1 (n := 121) h rfl) rfl
  have e := fq_of e0
  rw [Nat.add_sub_cancel_left] at e
  exact e
theorem fq1_127 {cc : ByteArray} {pc : Nat} (h : cc.data.toList[pc]? = some (127 : UInt8)) : decode cc pc = .ok (.land, 1) := by
  have e0 : (Jvm.ClassFile.Decoder.instr pc) cc pc = .ok (.land, pc + 1) := by
    unfold Jvm.ClassFile.Decoder.instr
    exact fq_b (fq_u1 (n := 127) h rfl) rfl
  have e := fq_of e0
  rw [Nat.add_sub_cancel_left] at e
  exact e
theorem fq1_129 {cc : ByteArray} {pc : Nat} (h : cc.data.toList[pc]? = some (129 : UInt8)) : decode cc pc = .ok (.lor, 1) := by
  have e0 : (Jvm.ClassFile.Decoder.instr pc) cc pc = .ok (.lor, pc + 1) := by
    unfold Jvm.ClassFile.Decoder.instr
    exact fq_b (fq_u1 (n := 129) h rfl) rfl
  have e := fq_of e0
  rw [Nat.add_sub_cancel_left] at e
  exact e
theorem fq3_182 {cc : ByteArray} {pc v : Nat} {x y : UInt8} (h : cc.data.toList[pc]? = some (182 : UInt8)) (h1 : cc.data.toList[pc + 1]? = some x) (h2 : cc.data.toList[pc + 1 + 1]? = some y) (hv : x.toNat * 256 + y.toNat = v) : decode cc pc = .ok (.invokevirtual v, 3) := by
  have e0 : (Jvm.ClassFile.Decoder.instr pc) cc pc = .ok (.invokevirtual v, pc + 3) := by
    unfold Jvm.ClassFile.Decoder.instr
    refine fq_b (fq_u1 (n := 182) h rfl) ?_
    show ((Jvm.ClassFile.Reader.u2 : Jvm.ClassFile.Decoder Nat) >>= fun z => pure (Instr.invokevirtual z)) cc (pc + 1) = _
    exact fq_b (fq_u2 h1 h2) (by subst hv; rfl)
  have e := fq_of e0
  rw [Nat.add_sub_cancel_left] at e
  exact e
theorem fq3_167 {cc : ByteArray} {pc : Nat} {v : Int} {x y : UInt8} (h : cc.data.toList[pc]? = some (167 : UInt8)) (h1 : cc.data.toList[pc + 1]? = some x) (h2 : cc.data.toList[pc + 1 + 1]? = some y) (hv : Jvm.ClassFile.Reader.signed 16 (x.toNat * 256 + y.toNat) = v) : decode cc pc = .ok (.goto v, 3) := by
  have e0 : (Jvm.ClassFile.Decoder.instr pc) cc pc = .ok (.goto v, pc + 3) := by
    unfold Jvm.ClassFile.Decoder.instr
    refine fq_b (fq_u1 (n := 167) h rfl) ?_
    show ((Jvm.ClassFile.Reader.s2 : Jvm.ClassFile.Decoder Int) >>= fun z => pure (Instr.goto z)) cc (pc + 1) = _
    refine fq_b (a := v) (q := pc + 3) ?_ rfl
    unfold Jvm.ClassFile.Reader.s2
    rw [← hv]
    exact fq_m (fq_u2 h1 h2)
  have e := fq_of e0
  rw [Nat.add_sub_cancel_left] at e
  exact e
def fb_11 : List UInt8 := [0x2b, 0x2a, 0x1d, 0x04, 0x60, 0x2e, 0xb6, 0x00, 0x3f, 0x57, 0x2c, 0x2a, 0x1d, 0x04, 0x60, 0x2e, 0xb6, 0x00, 0x42, 0x57, 0xa7, 0x08, 0x4a, 0x2b, 0x2a, 0x1d, 0x04, 0x60, 0x2e, 0xb6, 0x00, 0x43, 0x2c, 0x2a, 0x1d, 0x04, 0x60, 0x2e, 0xb6, 0x00, 0x46, 0x9f, 0x08, 0x35, 0x03, 0xac, 0x2b, 0x2a, 0x1d, 0x04, 0x60, 0x2e, 0x2a, 0x1d, 0x05, 0x60, 0x2e, 0xb6, 0x00, 0x47, 0x57, 0x2c, 0x2a, 0x1d]
theorem fd_11 : (cL_law.data.toList.drop 704).take 64 = fb_11 := by decide +kernel
def fb_18 : List UInt8 := [0x2e, 0xb6, 0x00, 0x71, 0x57, 0xa7, 0x06, 0x99, 0x2b, 0x2a, 0x1d, 0x04, 0x60, 0x2e, 0xb6, 0x00, 0x72, 0x57, 0x2c, 0x2a, 0x1d, 0x04, 0x60, 0x2e, 0xb6, 0x00, 0x75, 0x57, 0xa7, 0x06, 0x82, 0x2b, 0x2a, 0x1d, 0x04, 0x60, 0x2e, 0x2a, 0x1d, 0x05, 0x60, 0x2e, 0x2a, 0x1d, 0x06, 0x60, 0x2e, 0xb6, 0x00, 0x76, 0x57, 0x2c, 0x2a, 0x1d, 0x04, 0x60, 0x2e, 0x2a, 0x1d, 0x05, 0x60, 0x2e, 0x2a, 0x1d]
theorem fd_18 : (cL_law.data.toList.drop 1152).take 64 = fb_18 := by decide +kernel
theorem fl_11 {p j : Nat} {b : UInt8} (e : p = 704 + j) (h : fb_11[j]? = some b) : cL_law.data.toList[p]? = some b := fq_l fd_11 e h
theorem fl_18 {p j : Nat} {b : UInt8} (e : p = 1152 + j) (h : fb_18[j]? = some b) : cL_law.data.toList[p]? = some b := fq_l fd_18 e h