theorem fq1_2 {cc : ByteArray} {pc : Nat} (h : cc.data.toList[pc]? = some (2 : UInt8)) : decode cc pc = .ok (.iconst (-1), 1) := by
  have e0 : (Jvm.ClassFile.Decoder.instr pc) cc pc = .ok (.iconst (-1), pc + 1) := by
    unfold Jvm.ClassFile.Decoder.instr
    exact fq_b (fq_u1 (n := 2) h rfl) rfl
  have e := fq_of e0
  rw [Nat.add_sub_cancel_left] at e
  exact e
theorem fq1_9 {cc : ByteArray} {pc : Nat} (h : cc.data.toList[pc]? = some (9 : UInt8)) : decode cc pc = .ok (.lconst 0, 1) := by
  have e0 : (Jvm.ClassFile.Decoder.instr pc) cc pc = .ok (.lconst 0, pc + 1) := by
    unfold Jvm.ClassFile.Decoder.instr
    exact fq_b (fq_u1 (n := 9) h rfl) rfl
  have e := fq_of e0
  rw [Nat.add_sub_cancel_left] at e
  exact e
theorem fq1_10 {cc : ByteArray} {pc : Nat} (h : cc.data.toList[pc]? = some (10 : UInt8)) : decode cc pc = .ok (.lconst 1, 1) := by
  have e0 : (Jvm.ClassFile.Decoder.instr pc) cc pc = .ok (.lconst 1, pc + 1) := by
    unfold Jvm.ClassFile.Decoder.instr
    exact fq_b (fq_u1 (n := 10) h rfl) rfl
  have e := fq_of e0
  rw [Nat.add_sub_cancel_left] at e
  exact e
theorem fq2_16 {cc : ByteArray} {pc : Nat} {v : Int} {x : UInt8} (h : cc.data.toList[pc]? = some (16 : UInt8)) (h1 : cc.data.toList[pc + 1]? = some x) (hv : Jvm.ClassFile.Reader.signed 8 x.toNat = v) : decode cc pc = .ok (.bipush v, 2) := by
  have e0 : (Jvm.ClassFile.Decoder.instr pc) cc pc = .ok (.bipush v, pc + 2) := by
    unfold Jvm.ClassFile.Decoder.instr
    refine fq_b (fq_u1 (n := 16) h rfl) ?_
    show ((Jvm.ClassFile.Reader.s1 : Jvm.ClassFile.Decoder Int) >>= fun z => pure (Instr.bipush z)) cc (pc + 1) = _
    refine fq_b (a := v) (q := pc + 2) ?_ rfl
    unfold Jvm.ClassFile.Reader.s1
    rw [← hv]
    exact fq_m (fq_u1 h1 rfl)
  have e := fq_of e0
  rw [Nat.add_sub_cancel_left] at e
  exact e
theorem fq3_17 {cc : ByteArray} {pc : Nat} {v : Int} {x y : UInt8} (h : cc.data.toList[pc]? = some (17 : UInt8)) (h1 : cc.data.toList[pc + 1]? = some x) (h2 : cc.data.toList[pc + 1 + 1]? = some y) (hv : Jvm.ClassFile.Reader.signed 16 (x.toNat * 256 + y.toNat) = v) : decode cc pc = .ok (.sipush v, 3) := by
  have e0 : (Jvm.ClassFile.Decoder.instr pc) cc pc = .ok (.sipush v, pc + 3) := by
    unfold Jvm.ClassFile.Decoder.instr
    refine fq_b (fq_u1 (n := 17) h rfl) ?_
    show ((Jvm.ClassFile.Reader.s2 : Jvm.ClassFile.Decoder Int) >>= fun z => pure (Instr.sipush z)) cc (pc + 1) = _
    refine fq_b (a := v) (q := pc + 3) ?_ rfl
    unfold Jvm.ClassFile.Reader.s2
    rw [← hv]
    exact fq_m (fq_u2 h1 h2)
  have e := fq_of e0
  rw [Nat.add_sub_cancel_left] at e
  exact e
theorem fq2_18 {cc : ByteArray} {pc : Nat} {v : Nat} {x : UInt8} (h : cc.data.toList[pc]? = some (18 : UInt8)) (h1 : cc.data.toList[pc + 1]? = some x) (hv : x.toNat = v) : decode cc pc = .ok (.ldc v, 2) := by
  have e0 : (Jvm.ClassFile.Decoder.instr pc) cc pc = .ok (.ldc v, pc + 2) := by
    unfold Jvm.ClassFile.Decoder.instr
    refine fq_b (fq_u1 (n := 18) h rfl) ?_
    show ((Jvm.ClassFile.Reader.u1 : Jvm.ClassFile.Decoder Nat) >>= fun z => pure (Instr.ldc z)) cc (pc + 1) = _
    exact fq_b (fq_u1 h1 hv) rfl
  have e := fq_of e0
  rw [Nat.add_sub_cancel_left] at e
  exact e
theorem fq3_19 {cc : ByteArray} {pc : Nat} {v : Nat} {x y : UInt8} (h : cc.data.toList[pc]? = some (19 : UInt8)) (h1 : cc.data.toList[pc + 1]? = some x) (h2 : cc.data.toList[pc + 1 + 1]? = some y) (hv : x.toNat * 256 + y.toNat = v) : decode cc pc = .ok (.ldc_w v, 3) := by
  have e0 : (Jvm.ClassFile.Decoder.instr pc) cc pc = .ok (.ldc_w v, pc + 3) := by
    unfold Jvm.ClassFile.Decoder.instr
    refine fq_b (fq_u1 (n := 19) h rfl) ?_
    show ((Jvm.ClassFile.Reader.u2 : Jvm.ClassFile.Decoder Nat) >>= fun z => pure (Instr.ldc_w z)) cc (pc + 1) = _
    exact fq_b (fq_u2 h1 h2) (by subst hv; rfl)
  have e := fq_of e0
  rw [Nat.add_sub_cancel_left] at e
  exact e
theorem fq2_21 {cc : ByteArray} {pc : Nat} {v : Nat} {x : UInt8} (h : cc.data.toList[pc]? = some (21 : UInt8)) (h1 : cc.data.toList[pc + 1]? = some x) (hv : x.toNat = v) : decode cc pc = .ok (.iload v, 2) := by
  have e0 : (Jvm.ClassFile.Decoder.instr pc) cc pc = .ok (.iload v, pc + 2) := by
    unfold Jvm.ClassFile.Decoder.instr
    refine fq_b (fq_u1 (n := 21) h rfl) ?_
    show ((Jvm.ClassFile.Reader.u1 : Jvm.ClassFile.Decoder Nat) >>= fun z => pure (Instr.iload z)) cc (pc + 1) = _
    exact fq_b (fq_u1 h1 hv) rfl
  have e := fq_of e0
  rw [Nat.add_sub_cancel_left] at e
  exact e
theorem fq1_26 {cc : ByteArray} {pc : Nat} (h : cc.data.toList[pc]? = some (26 : UInt8)) : decode cc pc = .ok (.iload_n 0, 1) := by
  have e0 : (Jvm.ClassFile.Decoder.instr pc) cc pc = .ok (.iload_n 0, pc + 1) := by
    unfold Jvm.ClassFile.Decoder.instr
    exact fq_b (fq_u1 (n := 26) h rfl) rfl
  have e := fq_of e0
  rw [Nat.add_sub_cancel_left] at e
  exact e
theorem fq1_27 {cc : ByteArray} {pc : Nat} (h : cc.data.toList[pc]? = some (27 : UInt8)) : decode cc pc = .ok (.iload_n 1, 1) := by
  have e0 : (Jvm.ClassFile.Decoder.instr pc) cc pc = .ok (.iload_n 1, pc + 1) := by
    unfold Jvm.ClassFile.Decoder.instr
    exact fq_b (fq_u1 (n := 27) h rfl) rfl
  have e := fq_of e0
  rw [Nat.add_sub_cancel_left] at e
  exact e
theorem fq1_28 {cc : ByteArray} {pc : Nat} (h : cc.data.toList[pc]? = some (28 : UInt8)) : decode cc pc = .ok (.iload_n 2, 1) := by
  have e0 : (Jvm.ClassFile.Decoder.instr pc) cc pc = .ok (.iload_n 2, pc + 1) := by
    unfold Jvm.ClassFile.Decoder.instr
    exact fq_b (fq_u1 (n := 28) h rfl) rfl
  have e := fq_of e0
  rw [Nat.add_sub_cancel_left] at e
  exact e
theorem fq2_54 {cc : ByteArray} {pc : Nat} {v : Nat} {x : UInt8} (h : cc.data.toList[pc]? = some (54 : UInt8)) (h1 : cc.data.toList[pc + 1]? = some x) (hv : x.toNat = v) : decode cc pc = .ok (.istore v, 2) := by
  have e0 : (Jvm.ClassFile.Decoder.instr pc) cc pc = .ok (.istore v, pc + 2) := by
    unfold Jvm.ClassFile.Decoder.instr
    refine fq_b (fq_u1 (n := 54) h rfl) ?_
    show ((Jvm.ClassFile.Reader.u1 : Jvm.ClassFile.Decoder Nat) >>= fun z => pure (Instr.istore z)) cc (pc + 1) = _
    exact fq_b (fq_u1 h1 hv) rfl
  have e := fq_of e0
  rw [Nat.add_sub_cancel_left] at e
  exact e
theorem fq1_60 {cc : ByteArray} {pc : Nat} (h : cc.data.toList[pc]? = some (60 : UInt8)) : decode cc pc = .ok (.istore_n 1, 1) := by
  have e0 : (Jvm.ClassFile.Decoder.instr pc) cc pc = .ok (.istore_n 1, pc + 1) := by
    unfold Jvm.ClassFile.Decoder.instr
    exact fq_b (fq_u1 (n := 60) h rfl) rfl
  have e := fq_of e0
  rw [Nat.add_sub_cancel_left] at e
  exact e
theorem fq1_61 {cc : ByteArray} {pc : Nat} (h : cc.data.toList[pc]? = some (61 : UInt8)) : decode cc pc = .ok (.istore_n 2, 1) := by
  have e0 : (Jvm.ClassFile.Decoder.instr pc) cc pc = .ok (.istore_n 2, pc + 1) := by
    unfold Jvm.ClassFile.Decoder.instr
    exact fq_b (fq_u1 (n := 61) h rfl) rfl
  have e := fq_of e0
  rw [Nat.add_sub_cancel_left] at e
  exact e
theorem fq1_62 {cc : ByteArray} {pc : Nat} (h : cc.data.toList[pc]? = some (62 : UInt8)) : decode cc pc = .ok (.istore_n 3, 1) := by
  have e0 : (Jvm.ClassFile.Decoder.instr pc) cc pc = .ok (.istore_n 3, pc + 1) := by
    unfold Jvm.ClassFile.Decoder.instr
    exact fq_b (fq_u1 (n := 62) h rfl) rfl
  have e := fq_of e0
  rw [Nat.add_sub_cancel_left] at e
  exact e
theorem fq1_79 {cc : ByteArray} {pc : Nat} (h : cc.data.toList[pc]? = some (79 : UInt8)) : decode cc pc = .ok (.iastore, 1) := by
  have e0 : (Jvm.ClassFile.Decoder.instr pc) cc pc = .ok (.iastore, pc + 1) := by
    unfold Jvm.ClassFile.Decoder.instr
    exact fq_b (fq_u1 (n := 79) h rfl) rfl
  have e := fq_of e0
  rw [Nat.add_sub_cancel_left] at e
  exact e
theorem fq1_89 {cc : ByteArray} {pc : Nat} (h : cc.data.toList[pc]? = some (89 : UInt8)) : decode cc pc = .ok (.dup, 1) := by
  have e0 : (Jvm.ClassFile.Decoder.instr pc) cc pc = .ok (.dup, pc + 1) := by
    unfold Jvm.ClassFile.Decoder.instr
    exact fq_b (fq_u1 (n := 89) h rfl) rfl
  have e := fq_of e0
  rw [Nat.add_sub_cancel_left] at e
  exact e
theorem fq1_100 {cc : ByteArray} {pc : Nat} (h : cc.data.toList[pc]? = some (100 : UInt8)) : decode cc pc = .ok (.isub, 1) := by
  have e0 : (Jvm.ClassFile.Decoder.instr pc) cc pc = .ok (.isub, pc + 1) := by
    unfold Jvm.ClassFile.Decoder.instr
    exact fq_b (fq_u1 (n := 100) h rfl) rfl
  have e := fq_of e0
  rw [Nat.add_sub_cancel_left] at e
  exact e
theorem fq1_104 {cc : ByteArray} {pc : Nat} (h : cc.data.toList[pc]? = some (104 : UInt8)) : decode cc pc = .ok (.imul, 1) := by
  have e0 : (Jvm.ClassFile.Decoder.instr pc) cc pc = .ok (.imul, pc + 1) := by
    unfold Jvm.ClassFile.Decoder.instr
    exact fq_b (fq_u1 (n := 104) h rfl) rfl
  have e := fq_of e0
  rw [Nat.add_sub_cancel_left] at e
  exact e
theorem fq1_108 {cc : ByteArray} {pc : Nat} (h : cc.data.toList[pc]? = some (108 : UInt8)) : decode cc pc = .ok (.idiv, 1) := by
  have e0 : (Jvm.ClassFile.Decoder.instr pc) cc pc = .ok (.idiv, pc + 1) := by
    unfold Jvm.ClassFile.Decoder.instr
    exact fq_b (fq_u1 (n := 108) h rfl) rfl
  have e := fq_of e0
  rw [Nat.add_sub_cancel_left] at e
  exact e
theorem fq1_112 {cc : ByteArray} {pc : Nat} (h : cc.data.toList[pc]? = some (112 : UInt8)) : decode cc pc = .ok (.irem, 1) := by
  have e0 : (Jvm.ClassFile.Decoder.instr pc) cc pc = .ok (.irem, pc + 1) := by
    unfold Jvm.ClassFile.Decoder.instr
    exact fq_b (fq_u1 (n := 112) h rfl) rfl
  have e := fq_of e0
  rw [Nat.add_sub_cancel_left] at e
  exact e
theorem fq1_120 {cc : ByteArray} {pc : Nat} (h : cc.data.toList[pc]? = some (120 : UInt8)) : decode cc pc = .ok (.ishl, 1) := by
  have e0 : (Jvm.ClassFile.Decoder.instr pc) cc pc = .ok (.ishl, pc + 1) := by
    unfold Jvm.ClassFile.Decoder.instr
    exact fq_b (fq_u1 (n := 120) h rfl) rfl
  have e := fq_of e0
  rw [Nat.add_sub_cancel_left] at e
  exact e
theorem fq1_122 {cc : ByteArray} {pc : Nat} (h : cc.data.toList[pc]? = some (122 : UInt8)) : decode cc pc = .ok (.ishr, 1) := by
  have e0 : (Jvm.ClassFile.Decoder.instr pc) cc pc = .ok (.ishr, pc + 1) := by
    unfold Jvm.ClassFile.Decoder.instr
    exact fq_b (fq_u1 (n := 122) h rfl) rfl
  have e := fq_of e0
  rw [Nat.add_sub_cancel_left] at e
  exact e
theorem fq1_123 {cc : ByteArray} {pc : Nat} (h : cc.data.toList[pc]? = some (123 : UInt8)) : decode cc pc = .ok (.lshr, 1) := by
  have e0 : (Jvm.ClassFile.Decoder.instr pc) cc pc = .ok (.lshr, pc + 1) := by
    unfold Jvm.ClassFile.Decoder.instr
    exact fq_b (fq_u1 (n := 123) h rfl) rfl
  have e := fq_of e0
  rw [Nat.add_sub_cancel_left] at e
  exact e
theorem fq1_126 {cc : ByteArray} {pc : Nat} (h : cc.data.toList[pc]? = some (126 : UInt8)) : decode cc pc = .ok (.iand, 1) := by
  have e0 : (Jvm.ClassFile.Decoder.instr pc) cc pc = .ok (.iand, pc + 1) := by
    unfold Jvm.ClassFile.Decoder.instr
    exact fq_b (fq_u1 (n := 126) h rfl) rfl
  have e := fq_of e0
  rw [Nat.add_sub_cancel_left] at e
  exact e
theorem fq1_128 {cc : ByteArray} {pc : Nat} (h : cc.data.toList[pc]? = some (128 : UInt8)) : decode cc pc = .ok (.ior, 1) := by
  have e0 : (Jvm.ClassFile.Decoder.instr pc) cc pc = .ok (.ior, pc + 1) := by
    unfold Jvm.ClassFile.Decoder.instr
    exact fq_b (fq_u1 (n := 128) h rfl) rfl
  have e := fq_of e0
  rw [Nat.add_sub_cancel_left] at e
  exact e
theorem fq1_130 {cc : ByteArray} {pc : Nat} (h : cc.data.toList[pc]? = some (130 : UInt8)) : decode cc pc = .ok (.ixor, 1) := by
  have e0 : (Jvm.ClassFile.Decoder.instr pc) cc pc = .ok (.ixor, pc + 1) := by
    unfold Jvm.ClassFile.Decoder.instr
    exact fq_b (fq_u1 (n := 130) h rfl) rfl
  have e := fq_of e0
  rw [Nat.add_sub_cancel_left] at e
  exact e
theorem fq3_132 {cc : ByteArray} {pc v : Nat} {w : Int} {x y : UInt8} (h : cc.data.toList[pc]? = some (132 : UInt8)) (h1 : cc.data.toList[pc + 1]? = some x) (h2 : cc.data.toList[pc + 1 + 1]? = some y) (hv : x.toNat = v) (hw : Jvm.ClassFile.Reader.signed 8 y.toNat = w) : decode cc pc = .ok (.iinc v w, 3) := by
  have e0 : (Jvm.ClassFile.Decoder.instr pc) cc pc = .ok (.iinc v w, pc + 3) := by
    unfold Jvm.ClassFile.Decoder.instr
    refine fq_b (fq_u1 (n := 132) h rfl) ?_
    show ((Jvm.ClassFile.Reader.u1 : Jvm.ClassFile.Decoder Nat) >>= fun z => (Jvm.ClassFile.Reader.s1 : Jvm.ClassFile.Decoder Int) >>= fun z2 => pure (Instr.iinc z z2)) cc (pc + 1) = _
    refine fq_b (fq_u1 h1 hv) ?_
    refine fq_b (a := w) (q := pc + 3) ?_ rfl
    unfold Jvm.ClassFile.Reader.s1
    rw [← hw]
    exact fq_m (fq_u1 h2 rfl)
  have e := fq_of e0
  rw [Nat.add_sub_cancel_left] at e
  exact e
theorem fq1_148 {cc : ByteArray} {pc : Nat} (h : cc.data.toList[pc]? = some (148 : UInt8)) : decode cc pc = .ok (.lcmp, 1) := by
  have e0 : (Jvm.ClassFile.Decoder.instr pc) cc pc = .ok (.lcmp, pc + 1) := by
    unfold Jvm.ClassFile.Decoder.instr
    exact fq_b (fq_u1 (n := 148) h rfl) rfl
  have e := fq_of e0
  rw [Nat.add_sub_cancel_left] at e
  exact e
theorem fq3_153 {cc : ByteArray} {pc : Nat} {v : Int} {x y : UInt8} (h : cc.data.toList[pc]? = some (153 : UInt8)) (h1 : cc.data.toList[pc + 1]? = some x) (h2 : cc.data.toList[pc + 1 + 1]? = some y) (hv : Jvm.ClassFile.Reader.signed 16 (x.toNat * 256 + y.toNat) = v) : decode cc pc = .ok (.ifCond .eq v, 3) := by
  have e0 : (Jvm.ClassFile.Decoder.instr pc) cc pc = .ok (.ifCond .eq v, pc + 3) := by
    unfold Jvm.ClassFile.Decoder.instr
    refine fq_b (fq_u1 (n := 153) h rfl) ?_
    show ((Jvm.ClassFile.Reader.s2 : Jvm.ClassFile.Decoder Int) >>= fun z => pure (Instr.ifCond .eq z)) cc (pc + 1) = _
    refine fq_b (a := v) (q := pc + 3) ?_ rfl
    unfold Jvm.ClassFile.Reader.s2
    rw [← hv]
    exact fq_m (fq_u2 h1 h2)
  have e := fq_of e0
  rw [Nat.add_sub_cancel_left] at e
  exact e
theorem fq3_154 {cc : ByteArray} {pc : Nat} {v : Int} {x y : UInt8} (h : cc.data.toList[pc]? = some (154 : UInt8)) (h1 : cc.data.toList[pc + 1]? = some x) (h2 : cc.data.toList[pc + 1 + 1]? = some y) (hv : Jvm.ClassFile.Reader.signed 16 (x.toNat * 256 + y.toNat) = v) : decode cc pc = .ok (.ifCond .ne v, 3) := by
  have e0 : (Jvm.ClassFile.Decoder.instr pc) cc pc = .ok (.ifCond .ne v, pc + 3) := by
    unfold Jvm.ClassFile.Decoder.instr
    refine fq_b (fq_u1 (n := 154) h rfl) ?_
    show ((Jvm.ClassFile.Reader.s2 : Jvm.ClassFile.Decoder Int) >>= fun z => pure (Instr.ifCond .ne z)) cc (pc + 1) = _
    refine fq_b (a := v) (q := pc + 3) ?_ rfl
    unfold Jvm.ClassFile.Reader.s2
    rw [← hv]
    exact fq_m (fq_u2 h1 h2)
  have e := fq_of e0
  rw [Nat.add_sub_cancel_left] at e
  exact e
theorem fq3_155 {cc : ByteArray} {pc : Nat} {v : Int} {x y : UInt8} (h : cc.data.toList[pc]? = some (155 : UInt8)) (h1 : cc.data.toList[pc + 1]? = some x) (h2 : cc.data.toList[pc + 1 + 1]? = some y) (hv : Jvm.ClassFile.Reader.signed 16 (x.toNat * 256 + y.toNat) = v) : decode cc pc = .ok (.ifCond .lt v, 3) := by
  have e0 : (Jvm.ClassFile.Decoder.instr pc) cc pc = .ok (.ifCond .lt v, pc + 3) := by
    unfold Jvm.ClassFile.Decoder.instr
    refine fq_b (fq_u1 (n := 155) h rfl) ?_
    show ((Jvm.ClassFile.Reader.s2 : Jvm.ClassFile.Decoder Int) >>= fun z => pure (Instr.ifCond .lt z)) cc (pc + 1) = _
    refine fq_b (a := v) (q := pc + 3) ?_ rfl
    unfold Jvm.ClassFile.Reader.s2
    rw [← hv]
    exact fq_m (fq_u2 h1 h2)
  have e := fq_of e0
  rw [Nat.add_sub_cancel_left] at e
  exact e
theorem fq3_159 {cc : ByteArray} {pc : Nat} {v : Int} {x y : UInt8} (h : cc.data.toList[pc]? = some (159 : UInt8)) (h1 : cc.data.toList[pc + 1]? = some x) (h2 : cc.data.toList[pc + 1 + 1]? = some y) (hv : Jvm.ClassFile.Reader.signed 16 (x.toNat * 256 + y.toNat) = v) : decode cc pc = .ok (.if_icmp .eq v, 3) := by
  have e0 : (Jvm.ClassFile.Decoder.instr pc) cc pc = .ok (.if_icmp .eq v, pc + 3) := by
    unfold Jvm.ClassFile.Decoder.instr
    refine fq_b (fq_u1 (n := 159) h rfl) ?_
    show ((Jvm.ClassFile.Reader.s2 : Jvm.ClassFile.Decoder Int) >>= fun z => pure (Instr.if_icmp .eq z)) cc (pc + 1) = _
    refine fq_b (a := v) (q := pc + 3) ?_ rfl
    unfold Jvm.ClassFile.Reader.s2
    rw [← hv]
    exact fq_m (fq_u2 h1 h2)
  have e := fq_of e0
  rw [Nat.add_sub_cancel_left] at e
  exact e
theorem fq3_160 {cc : ByteArray} {pc : Nat} {v : Int} {x y : UInt8} (h : cc.data.toList[pc]? = some (160 : UInt8)) (h1 : cc.data.toList[pc + 1]? = some x) (h2 : cc.data.toList[pc + 1 + 1]? = some y) (hv : Jvm.ClassFile.Reader.signed 16 (x.toNat * 256 + y.toNat) = v) : decode cc pc = .ok (.if_icmp .ne v, 3) := by
  have e0 : (Jvm.ClassFile.Decoder.instr pc) cc pc = .ok (.if_icmp .ne v, pc + 3) := by
    unfold Jvm.ClassFile.Decoder.instr
    refine fq_b (fq_u1 (n := 160) h rfl) ?_
    show ((Jvm.ClassFile.Reader.s2 : Jvm.ClassFile.Decoder Int) >>= fun z => pure (Instr.if_icmp .ne z)) cc (pc + 1) = _
    refine fq_b (a := v) (q := pc + 3) ?_ rfl
    unfold Jvm.ClassFile.Reader.s2
    rw [← hv]
    exact fq_m (fq_u2 h1 h2)
  have e := fq_of e0
  rw [Nat.add_sub_cancel_left] at e
  exact e
theorem fq3_161 {cc : ByteArray} {pc : Nat} {v : Int} {x y : UInt8} (h : cc.data.toList[pc]? = some (161 : UInt8)) (h1 : cc.data.toList[pc + 1]? = some x) (h2 : cc.data.toList[pc + 1 + 1]? = some y) (hv : Jvm.ClassFile.Reader.signed 16 (x.toNat * 256 + y.toNat) = v) : decode cc pc = .ok (.if_icmp .lt v, 3) := by
  have e0 : (Jvm.ClassFile.Decoder.instr pc) cc pc = .ok (.if_icmp .lt v, pc + 3) := by
    unfold Jvm.ClassFile.Decoder.instr
    refine fq_b (fq_u1 (n := 161) h rfl) ?_
    show ((Jvm.ClassFile.Reader.s2 : Jvm.ClassFile.Decoder Int) >>= fun z => pure (Instr.if_icmp .lt z)) cc (pc + 1) = _
    refine fq_b (a := v) (q := pc + 3) ?_ rfl
    unfold Jvm.ClassFile.Reader.s2
    rw [← hv]
    exact fq_m (fq_u2 h1 h2)
  have e := fq_of e0
  rw [Nat.add_sub_cancel_left] at e
  exact e
theorem fq3_162 {cc : ByteArray} {pc : Nat} {v : Int} {x y : UInt8} (h : cc.data.toList[pc]? = some (162 : UInt8)) (h1 : cc.data.toList[pc + 1]? = some x) (h2 : cc.data.toList[pc + 1 + 1]? = some y) (hv : Jvm.ClassFile.Reader.signed 16 (x.toNat * 256 + y.toNat) = v) : decode cc pc = .ok (.if_icmp .ge v, 3) := by
  have e0 : (Jvm.ClassFile.Decoder.instr pc) cc pc = .ok (.if_icmp .ge v, pc + 3) := by
    unfold Jvm.ClassFile.Decoder.instr
    refine fq_b (fq_u1 (n := 162) h rfl) ?_
    show ((Jvm.ClassFile.Reader.s2 : Jvm.ClassFile.Decoder Int) >>= fun z => pure (Instr.if_icmp .ge z)) cc (pc + 1) = _
    refine fq_b (a := v) (q := pc + 3) ?_ rfl
    unfold Jvm.ClassFile.Reader.s2
    rw [← hv]
    exact fq_m (fq_u2 h1 h2)
  have e := fq_of e0
  rw [Nat.add_sub_cancel_left] at e
  exact e
theorem fq3_163 {cc : ByteArray} {pc : Nat} {v : Int} {x y : UInt8} (h : cc.data.toList[pc]? = some (163 : UInt8)) (h1 : cc.data.toList[pc + 1]? = some x) (h2 : cc.data.toList[pc + 1 + 1]? = some y) (hv : Jvm.ClassFile.Reader.signed 16 (x.toNat * 256 + y.toNat) = v) : decode cc pc = .ok (.if_icmp .gt v, 3) := by
  have e0 : (Jvm.ClassFile.Decoder.instr pc) cc pc = .ok (.if_icmp .gt v, pc + 3) := by
    unfold Jvm.ClassFile.Decoder.instr
    refine fq_b (fq_u1 (n := 163) h rfl) ?_
    show ((Jvm.ClassFile.Reader.s2 : Jvm.ClassFile.Decoder Int) >>= fun z => pure (Instr.if_icmp .gt z)) cc (pc + 1) = _
    refine fq_b (a := v) (q := pc + 3) ?_ rfl
    unfold Jvm.ClassFile.Reader.s2
    rw [← hv]
    exact fq_m (fq_u2 h1 h2)
  have e := fq_of e0
  rw [Nat.add_sub_cancel_left] at e
  exact e
theorem fq3_164 {cc : ByteArray} {pc : Nat} {v : Int} {x y : UInt8} (h : cc.data.toList[pc]? = some (164 : UInt8)) (h1 : cc.data.toList[pc + 1]? = some x) (h2 : cc.data.toList[pc + 1 + 1]? = some y) (hv : Jvm.ClassFile.Reader.signed 16 (x.toNat * 256 + y.toNat) = v) : decode cc pc = .ok (.if_icmp .le v, 3) := by
  have e0 : (Jvm.ClassFile.Decoder.instr pc) cc pc = .ok (.if_icmp .le v, pc + 3) := by
    unfold Jvm.ClassFile.Decoder.instr
    refine fq_b (fq_u1 (n := 164) h rfl) ?_
    show ((Jvm.ClassFile.Reader.s2 : Jvm.ClassFile.Decoder Int) >>= fun z => pure (Instr.if_icmp .le z)) cc (pc + 1) = _
    refine fq_b (a := v) (q := pc + 3) ?_ rfl
    unfold Jvm.ClassFile.Reader.s2
    rw [← hv]
    exact fq_m (fq_u2 h1 h2)
  have e := fq_of e0
  rw [Nat.add_sub_cancel_left] at e
  exact e
theorem fq1_172 {cc : ByteArray} {pc : Nat} (h : cc.data.toList[pc]? = some (172 : UInt8)) : decode cc pc = .ok (.ireturn, 1) := by
  have e0 : (Jvm.ClassFile.Decoder.instr pc) cc pc = .ok (.ireturn, pc + 1) := by
    unfold Jvm.ClassFile.Decoder.instr
    exact fq_b (fq_u1 (n := 172) h rfl) rfl
  have e := fq_of e0
  rw [Nat.add_sub_cancel_left] at e
  exact e
theorem fq1_177 {cc : ByteArray} {pc : Nat} (h : cc.data.toList[pc]? = some (177 : UInt8)) : decode cc pc = .ok (.return_, 1) := by
  have e0 : (Jvm.ClassFile.Decoder.instr pc) cc pc = .ok (.return_, pc + 1) := by
    unfold Jvm.ClassFile.Decoder.instr
    exact fq_b (fq_u1 (n := 177) h rfl) rfl
  have e := fq_of e0
  rw [Nat.add_sub_cancel_left] at e
  exact e
theorem fq3_180 {cc : ByteArray} {pc : Nat} {v : Nat} {x y : UInt8} (h : cc.data.toList[pc]? = some (180 : UInt8)) (h1 : cc.data.toList[pc + 1]? = some x) (h2 : cc.data.toList[pc + 1 + 1]? = some y) (hv : x.toNat * 256 + y.toNat = v) : decode cc pc = .ok (.getfield v, 3) := by
  have e0 : (Jvm.ClassFile.Decoder.instr pc) cc pc = .ok (.getfield v, pc + 3) := by
    unfold Jvm.ClassFile.Decoder.instr
    refine fq_b (fq_u1 (n := 180) h rfl) ?_
    show ((Jvm.ClassFile.Reader.u2 : Jvm.ClassFile.Decoder Nat) >>= fun z => pure (Instr.getfield z)) cc (pc + 1) = _
    exact fq_b (fq_u2 h1 h2) (by subst hv; rfl)
  have e := fq_of e0
  rw [Nat.add_sub_cancel_left] at e
  exact e
theorem fq3_181 {cc : ByteArray} {pc : Nat} {v : Nat} {x y : UInt8} (h : cc.data.toList[pc]? = some (181 : UInt8)) (h1 : cc.data.toList[pc + 1]? = some x) (h2 : cc.data.toList[pc + 1 + 1]? = some y) (hv : x.toNat * 256 + y.toNat = v) : decode cc pc = .ok (.putfield v, 3) := by
  have e0 : (Jvm.ClassFile.Decoder.instr pc) cc pc = .ok (.putfield v, pc + 3) := by
    unfold Jvm.ClassFile.Decoder.instr
    refine fq_b (fq_u1 (n := 181) h rfl) ?_
    show ((Jvm.ClassFile.Reader.u2 : Jvm.ClassFile.Decoder Nat) >>= fun z => pure (Instr.putfield z)) cc (pc + 1) = _
    exact fq_b (fq_u2 h1 h2) (by subst hv; rfl)
  have e := fq_of e0
  rw [Nat.add_sub_cancel_left] at e
  exact e
theorem fq3_184 {cc : ByteArray} {pc : Nat} {v : Nat} {x y : UInt8} (h : cc.data.toList[pc]? = some (184 : UInt8)) (h1 : cc.data.toList[pc + 1]? = some x) (h2 : cc.data.toList[pc + 1 + 1]? = some y) (hv : x.toNat * 256 + y.toNat = v) : decode cc pc = .ok (.invokestatic v, 3) := by
  have e0 : (Jvm.ClassFile.Decoder.instr pc) cc pc = .ok (.invokestatic v, pc + 3) := by
    unfold Jvm.ClassFile.Decoder.instr
    refine fq_b (fq_u1 (n := 184) h rfl) ?_
    show ((Jvm.ClassFile.Reader.u2 : Jvm.ClassFile.Decoder Nat) >>= fun z => pure (Instr.invokestatic z)) cc (pc + 1) = _
    exact fq_b (fq_u2 h1 h2) (by subst hv; rfl)
  have e := fq_of e0
  rw [Nat.add_sub_cancel_left] at e
  exact e
theorem fq1_190 {cc : ByteArray} {pc : Nat} (h : cc.data.toList[pc]? = some (190 : UInt8)) : decode cc pc = .ok (.arraylength, 1) := by
  have e0 : (Jvm.ClassFile.Decoder.instr pc) cc pc = .ok (.arraylength, pc + 1) := by
    unfold Jvm.ClassFile.Decoder.instr
    exact fq_b (fq_u1 (n := 190) h rfl) rfl
  have e := fq_of e0
  rw [Nat.add_sub_cancel_left] at e
  exact e
theorem fq3_198 {cc : ByteArray} {pc : Nat} {v : Int} {x y : UInt8} (h : cc.data.toList[pc]? = some (198 : UInt8)) (h1 : cc.data.toList[pc + 1]? = some x) (h2 : cc.data.toList[pc + 1 + 1]? = some y) (hv : Jvm.ClassFile.Reader.signed 16 (x.toNat * 256 + y.toNat) = v) : decode cc pc = .ok (.ifnull v, 3) := by
  have e0 : (Jvm.ClassFile.Decoder.instr pc) cc pc = .ok (.ifnull v, pc + 3) := by
    unfold Jvm.ClassFile.Decoder.instr
    refine fq_b (fq_u1 (n := 198) h rfl) ?_
    show ((Jvm.ClassFile.Reader.s2 : Jvm.ClassFile.Decoder Int) >>= fun z => pure (Instr.ifnull z)) cc (pc + 1) = _
    refine fq_b (a := v) (q := pc + 3) ?_ rfl
    unfold Jvm.ClassFile.Reader.s2
    rw [← hv]
    exact fq_m (fq_u2 h1 h2)
  have e := fq_of e0
  rw [Nat.add_sub_cancel_left] at e
  exact e
theorem fq3_199 {cc : ByteArray} {pc : Nat} {v : Int} {x y : UInt8} (h : cc.data.toList[pc]? = some (199 : UInt8)) (h1 : cc.data.toList[pc + 1]? = some x) (h2 : cc.data.toList[pc + 1 + 1]? = some y) (hv : Jvm.ClassFile.Reader.signed 16 (x.toNat * 256 + y.toNat) = v) : decode cc pc = .ok (.ifnonnull v, 3) := by
  have e0 : (Jvm.ClassFile.Decoder.instr pc) cc pc = .ok (.ifnonnull v, pc + 3) := by
    unfold Jvm.ClassFile.Decoder.instr
    refine fq_b (fq_u1 (n := 199) h rfl) ?_
    show ((Jvm.ClassFile.Reader.s2 : Jvm.ClassFile.Decoder Int) >>= fun z => pure (Instr.ifnonnull z)) cc (pc + 1) = _
    refine fq_b (a := v) (q := pc + 3) ?_ rfl
    unfold Jvm.ClassFile.Reader.s2
    rw [← hv]
    exact fq_m (fq_u2 h1 h2)
  have e := fq_of e0
  rw [Nat.add_sub_cancel_left] at e
  exact e
