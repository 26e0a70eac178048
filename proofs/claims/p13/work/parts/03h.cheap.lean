section
theorem fq1_2 {cc : ByteArray} {pc : Nat} (h : cc.data.toList[pc]? = some (2 : UInt8)) : decode cc pc = .ok (.iconst (-1), 1) := by
  have e0 : (Jvm.ClassFile.Decoder.instr pc) cc pc = .ok (.iconst (-1), pc + 1) := by
    unfold Jvm.ClassFile.Decoder.instr
    exact fq_b (fq_u1 (n := 2) h rfl) rfl
  have e := fq_of e0
  rw [Nat.add_sub_cancel_left] at e
  exact e
theorem fq1_9 {cc : ByteArray} {pc : Nat} (h : cc.data.toList[pc]? = some (9 : UInt8)) : decode cc pc = .ok (.lconst 0, 1) := by
  have e0 : (Jvm.ClassFile.Decoder.instr pc) cc pc = .ok (.lconst 0, pc + 1) := by
    unfold Jvm.ClassFile.Decoder.instr
    exact fq_b (fq_u1 (n := 9) h rfl) rfl
  have e := fq_of e0
  rw [Nat.add_sub_cancel_left] at e
  exact e
theorem fq1_10 {cc : ByteArray} {pc : Nat} (h : cc.data.toList[pc]? = some (10 : UInt8)) : decode cc pc = .ok (.lconst 1, 1) := by
  have e0 : (Jvm.ClassFile.Decoder.instr pc) cc pc = .ok (.lconst 1, pc + 1) := by
    unfold Jvm.ClassFile.Decoder.instr
    exact fq_b (fq_u1 (n := 10) h rfl) rfl
  have e := fq_of e0
  rw [Nat.add_sub_cancel_left] at e
  exact e
theorem fq2_16 {cc : ByteArray} {pc : Nat} {v : Int} {x : UInt8} (h : cc.data.toList[pc]? = some (16 : UInt8)) (h1 : cc.data.toList[pc + 1]? = some x) (hv : Jvm.ClassFile.Reader.signed 8 x.toNat = v) : decode cc pc = .ok (.bipush v, 2) := by
  have e0 : (Jvm.ClassFile.Decoder.instr pc) cc pc = .ok (.bipush v, pc + 2) := by
    unfold Jvm.ClassFile.Decoder.instr
    refine fq_b (fq_u1 (n := 16) h rfl) ?_
    show ((Jvm.ClassFile.Reader.s1 : Jvm.ClassFile.Decoder Int) >>= fun z => pure (Instr.bipush z)) cc (pc + 1) = _
    refine fq_b (a := v) (q := pc + 2) ?_ rfl
    unfold Jvm.ClassFile.Reader.s1
    rw [← hv]
    exact fq_m (fq_u1 h1 rfl)
  have e := fq_of e0
  rw [Nat.add_sub_cancel_left] at e
  exact e
theorem fq3_17 {cc : ByteArray} {pc : Nat} {v : Int} {x y : UInt8} (h : cc.data.toList[pc]? = some (17 : UInt8)) (h1 : cc.data.toList[pc + 1]? = some x) (h2 : cc.data.toList[pc + 1 + 1]? = some y) (hv : Jvm.ClassFile.Reader.signed 16 (x.toNat * 256 + y.toNat) = v) : decode cc pc = .ok (.sipush v, 3) := by
  have e0 : (Jvm.ClassFile.Decoder.instr pc) cc pc = .ok (.sipush v, pc + 3) := by
    unfold Jvm.ClassFile.Decoder.instr
    refine fq_b (fq_u1 (n := 17) h rfl) ?_
    show ((Jvm.ClassFile.Reader.s2 : Jvm.ClassFile.Decoder Int) >>= fun z => pure (Instr.sipush z)) cc (pc + 1) = _
    refine fq_b (a := v) (q := pc + 3) ?_ rfl
    unfold Jvm.ClassFile.Reader.s2
    rw [← hv]
    exact fq_m (fq_u2 h1 h2)
  have e := fq_of e0
  rw [Nat.add_sub_cancel_left] at e
  exact e
theorem fq2_18 {cc : ByteArray} {pc : Nat} {v : Nat} {x : UInt8} (h : cc.data.toList[pc]? = some (18 : UInt8)) (h1 : cc.data.toList[pc + 1]? = some x) (hv : x.toNat = v) : decode cc pc = .ok (.ldc v, 2) := by
  have e0 : (Jvm.ClassFile.Decoder.instr pc) cc pc = .ok (.ldc v, pc + 2) := by
    unfold Jvm.ClassFile.Decoder.instr
    refine fq_b (fq_u1 (n := 18) h rfl) ?_
    show ((Jvm.ClassFile.Reader.u1 : Jvm.ClassFile.Decoder Nat) >>= fun z => pure (Instr.ldc z)) cc (pc + 1) = _
    exact fq_b (fq_u1 h1 hv) rfl
  have e := fq_of e0
  rw [Nat.add_sub_cancel_left] at e
  exact e
theorem fq3_19 {cc : ByteArray} {pc : Nat} {v : Nat} {x y : UInt8} (h : cc.data.toList[pc]? = some (19 : UInt8)) (h1 : cc.data.toList[pc + 1]? = some x) (h2 : cc.data.toList[pc + 1 + 1]? = some y) (hv : x.toNat * 256 + y.toNat = v) : decode cc pc = .ok (.ldc_w v, 3) := by
  have e0 : (Jvm.ClassFile.Decoder.instr pc) cc pc = .ok (.ldc_w v, pc + 3) := by
    unfold Jvm.ClassFile.Decoder.instr
    refine fq_b (fq_u1 (n := 19) h rfl) ?_
    show ((Jvm.ClassFile.Reader.u2 : Jvm.ClassFile.Decoder Nat) >>= fun z => pure (Instr.ldc_w z)) cc (pc + 1) = _
    exact fq_b (fq_u2 h1 h2) (by subst hv; rfl)
  have e := fq_of e0
  rw [Nat.add_sub_cancel_left] at e
  exact e
theorem fq3_20 {cc : ByteArray} {pc : Nat} {v : Nat} {x y : UInt8} (h : cc.data.toList[pc]? = some (20 : UInt8)) (h1 : cc.data.toList[pc + 1]? = some x) (h2 : cc.data.toList[pc + 1 + 1]? = some y) (hv : x.toNat * 256 + y.toNat = v) : decode cc pc = .ok (.ldc2_w v, 3) := by
  have e0 : (Jvm.ClassFile.Decoder.instr pc) cc pc = .ok (.ldc2_w v, pc + 3) := by
    unfold Jvm.ClassFile.Decoder.instr
    refine fq_b (fq_u1 (n := 20) h rfl) ?_
    show ((Jvm.ClassFile.Reader.u2 : Jvm.ClassFile.Decoder Nat) >>= fun z => pure (Instr.ldc2_w z)) cc (pc + 1) = _
    exact fq_b (fq_u2 h1 h2) (by subst hv; rfl)
  have e := fq_of e0
  rw [Nat.add_sub_cancel_left] at e
  exact e
theorem fq2_21 {cc : ByteArray} {pc : Nat} {v : Nat} {x : UInt8} (h : cc.data.toList[pc]? = some (21 : UInt8)) (h1 : cc.data.toList[pc + 1]? = some x) (hv : x.toNat = v) : decode cc pc = .ok (.iload v, 2) := by
  have e0 : (Jvm.ClassFile.Decoder.instr pc) cc pc = .ok (.iload v, pc + 2) := by
    unfold Jvm.ClassFile.Decoder.instr
    refine fq_b (fq_u1 (n := 21) h rfl) ?_
    show ((Jvm.ClassFile.Reader.u1 : Jvm.ClassFile.Decoder Nat) >>= fun z => pure (Instr.iload z)) cc (pc + 1) = _
    exact fq_b (fq_u1 h1 hv) rfl
  have e := fq_of e0
  rw [Nat.add_sub_cancel_left] at e
  exact e
theorem fq2_22 {cc : ByteArray} {pc : Nat} {v : Nat} {x : UInt8} (h : cc.data.toList[pc]? = some (22 : UInt8)) (h1 : cc.data.toList[pc + 1]? = some x) (hv : x.toNat = v) : decode cc pc = .ok (.lload v, 2) := by
  have e0 : (Jvm.ClassFile.Decoder.instr pc) cc pc = .ok (.lload v, pc + 2) := by
    unfold Jvm.ClassFile.Decoder.instr
    refine fq_b (fq_u1 (n := 22) h rfl) ?_
    show ((Jvm.ClassFile.Reader.u1 : Jvm.ClassFile.Decoder Nat) >>= fun z => pure (Instr.lload z)) cc (pc + 1) = _
    exact fq_b (fq_u1 h1 hv) rfl
  have e := fq_of e0
  rw [Nat.add_sub_cancel_left] at e
  exact e
theorem fq2_25 {cc : ByteArray} {pc : Nat} {v : Nat} {x : UInt8} (h : cc.data.toList[pc]? = some (25 : UInt8)) (h1 : cc.data.toList[pc + 1]? = some x) (hv : x.toNat = v) : decode cc pc = .ok (.aload v, 2) := by
  have e0 : (Jvm.ClassFile.Decoder.instr pc) cc pc = .ok (.aload v, pc + 2) := by
    unfold Jvm.ClassFile.Decoder.instr
    refine fq_b (fq_u1 (n := 25) h rfl) ?_
    show ((Jvm.ClassFile.Reader.u1 : Jvm.ClassFile.Decoder Nat) >>= fun z => pure (Instr.aload z)) cc (pc + 1) = _
    exact fq_b (fq_u1 h1 hv) rfl
  have e := fq_of e0
  rw [Nat.add_sub_cancel_left] at e
  exact e
theorem fq1_26 {cc : ByteArray} {pc : Nat} (h : cc.data.toList[pc]? = some (26 : UInt8)) : decode cc pc = .ok (.iload_n 0, 1) := by
  have e0 : (Jvm.ClassFile.Decoder.instr pc) cc pc = .ok (.iload_n 0, pc + 1) := by
    unfold Jvm.ClassFile.Decoder.instr
    exact fq_b (fq_u1 (n := 26) h rfl) rfl
  have e := fq_of e0
  rw [Nat.add_sub_cancel_left] at e
  exact e
theorem fq1_27 {cc : ByteArray} {pc : Nat} (h : cc.data.toList[pc]? = some (27 : UInt8)) : decode cc pc = .ok (.iload_n 1, 1) := by
  have e0 : (Jvm.ClassFile.Decoder.instr pc) cc pc = .ok (.iload_n 1, pc + 1) := by
    unfold Jvm.ClassFile.Decoder.instr
    exact fq_b (fq_u1 (n := 27) h rfl) rfl
  have e := fq_of e0
  rw [Nat.add_sub_cancel_left] at e
  exact e
theorem fq1_28 {cc : ByteArray} {pc : Nat} (h : cc.data.toList[pc]? = some (28 : UInt8)) : decode cc pc = .ok (.iload_n 2, 1) := by
  have e0 : (Jvm.ClassFile.Decoder.instr pc) cc pc = .ok (.iload_n 2, pc + 1) := by
    unfold Jvm.ClassFile.Decoder.instr
    exact fq_b (fq_u1 (n := 28) h rfl) rfl
  have e := fq_of e0
  rw [Nat.add_sub_cancel_left] at e
  exact e
theorem fq1_30 {cc : ByteArray} {pc : Nat} (h : cc.data.toList[pc]? = some (30 : UInt8)) : decode cc pc = .ok (.lload_n 0, 1) := by
  have e0 : (Jvm.ClassFile.Decoder.instr pc) cc pc = .ok (.lload_n 0, pc + 1) := by
    unfold Jvm.ClassFile.Decoder.instr
    exact fq_b (fq_u1 (n := 30) h rfl) rfl
  have e := fq_of e0
  rw [Nat.add_sub_cancel_left] at e
  exact e
theorem fq1_31 {cc : ByteArray} {pc : Nat} (h : cc.data.toList[pc]? = some (31 : UInt8)) : decode cc pc = .ok (.lload_n 1, 1) := by
  have e0 : (Jvm.ClassFile.Decoder.instr pc) cc pc = .ok (.lload_n 1, pc + 1) := by
    unfold Jvm.ClassFile.Decoder.instr
    exact fq_b (fq_u1 (n := 31) h rfl) rfl
  have e := fq_of e0
  rw [Nat.add_sub_cancel_left] at e
  exact e
theorem fq1_32 {cc : ByteArray} {pc : Nat} (h : cc.data.toList[pc]? = some (32 : UInt8)) : decode cc pc = .ok (.lload_n 2, 1) := by
  have e0 : (Jvm.ClassFile.Decoder.instr pc) cc pc = .ok (.lload_n 2, pc + 1) := by
    unfold Jvm.ClassFile.Decoder.instr
    exact fq_b (fq_u1 (n := 32) h rfl) rfl
  have e := fq_of e0
  rw [Nat.add_sub_cancel_left] at e
  exact e
theorem fq1_33 {cc : ByteArray} {pc : Nat} (h : cc.data.toList[pc]? = some (33 : UInt8)) : decode cc pc = .ok (.lload_n 3, 1) := by
  have e0 : (Jvm.ClassFile.Decoder.instr pc) cc pc = .ok (.lload_n 3, pc + 1) := by
    unfold Jvm.ClassFile.Decoder.instr
    exact fq_b (fq_u1 (n := 33) h rfl) rfl
  have e := fq_of e0
  rw [Nat.add_sub_cancel_left] at e
  exact e
theorem fq1_45 {cc : ByteArray} {pc : Nat} (h : cc.data.toList[pc]? = some (45 : UInt8)) : decode cc pc = .ok (.aload_n 3, 1) := by
  have e0 : (Jvm.ClassFile.Decoder.instr pc) cc pc = .ok (.aload_n 3, pc + 1) := by
    unfold Jvm.ClassFile.Decoder.instr
    exact fq_b (fq_u1 (n := 45) h rfl) rfl
  have e := fq_of e0
  rw [Nat.add_sub_cancel_left] at e
  exact e
theorem fq1_47 {cc : ByteArray} {pc : Nat} (h : cc.data.toList[pc]? = some (47 : UInt8)) : decode cc pc = .ok (.laload, 1) := by
  have e0 : (Jvm.ClassFile.Decoder.instr pc) cc pc = .ok (.laload, pc + 1) := by
    unfold Jvm.ClassFile.Decoder.instr
    exact fq_b (fq_u1 (n := 47) h rfl) rfl
  have e := fq_of e0
  rw [Nat.add_sub_cancel_left] at e
  exact e
theorem fq1_50 {cc : ByteArray} {pc : Nat} (h : cc.data.toList[pc]? = some (50 : UInt8)) : decode cc pc = .ok (.aaload, 1) := by
  have e0 : (Jvm.ClassFile.Decoder.instr pc) cc pc = .ok (.aaload, pc + 1) := by
    unfold Jvm.ClassFile.Decoder.instr
    exact fq_b (fq_u1 (n := 50) h rfl) rfl
  have e := fq_of e0
  rw [Nat.add_sub_cancel_left] at e
  exact e
theorem fq1_51 {cc : ByteArray} {pc : Nat} (h : cc.data.toList[pc]? = some (51 : UInt8)) : decode cc pc = .ok (.baload, 1) := by
  have e0 : (Jvm.ClassFile.Decoder.instr pc) cc pc = .ok (.baload, pc + 1) := by
    unfold Jvm.ClassFile.Decoder.instr
    exact fq_b (fq_u1 (n := 51) h rfl) rfl
  have e := fq_of e0
  rw [Nat.add_sub_cancel_left] at e
  exact e
theorem fq2_54 {cc : ByteArray} {pc : Nat} {v : Nat} {x : UInt8} (h : cc.data.toList[pc]? = some (54 : UInt8)) (h1 : cc.data.toList[pc + 1]? = some x) (hv : x.toNat = v) : decode cc pc = .ok (.istore v, 2) := by
  have e0 : (Jvm.ClassFile.Decoder.instr pc) cc pc = .ok (.istore v, pc + 2) := by
    unfold Jvm.ClassFile.Decoder.instr
    refine fq_b (fq_u1 (n := 54) h rfl) ?_
    show ((Jvm.ClassFile.Reader.u1 : Jvm.ClassFile.Decoder Nat) >>= fun z => pure (Instr.istore z)) cc (pc + 1) = _
    exact fq_b (fq_u1 h1 hv) rfl
  have e := fq_of e0
  rw [Nat.add_sub_cancel_left] at e
  exact e
theorem fq2_55 {cc : ByteArray} {pc : Nat} {v : Nat} {x : UInt8} (h : cc.data.toList[pc]? = some (55 : UInt8)) (h1 : cc.data.toList[pc + 1]? = some x) (hv : x.toNat = v) : decode cc pc = .ok (.lstore v, 2) := by
  have e0 : (Jvm.ClassFile.Decoder.instr pc) cc pc = .ok (.lstore v, pc + 2) := by
    unfold Jvm.ClassFile.Decoder.instr
    refine fq_b (fq_u1 (n := 55) h rfl) ?_
    show ((Jvm.ClassFile.Reader.u1 : Jvm.ClassFile.Decoder Nat) >>= fun z => pure (Instr.lstore z)) cc (pc + 1) = _
    exact fq_b (fq_u1 h1 hv) rfl
  have e := fq_of e0
  rw [Nat.add_sub_cancel_left] at e
  exact e
theorem fq2_58 {cc : ByteArray} {pc : Nat} {v : Nat} {x : UInt8} (h : cc.data.toList[pc]? = some (58 : UInt8)) (h1 : cc.data.toList[pc + 1]? = some x) (hv : x.toNat = v) : decode cc pc = .ok (.astore v, 2) := by
  have e0 : (Jvm.ClassFile.Decoder.instr pc) cc pc = .ok (.astore v, pc + 2) := by
    unfold Jvm.ClassFile.Decoder.instr
    refine fq_b (fq_u1 (n := 58) h rfl) ?_
    show ((Jvm.ClassFile.Reader.u1 : Jvm.ClassFile.Decoder Nat) >>= fun z => pure (Instr.astore z)) cc (pc + 1) = _
    exact fq_b (fq_u1 h1 hv) rfl
  have e := fq_of e0
  rw [Nat.add_sub_cancel_left] at e
  exact e
theorem fq1_59 {cc : ByteArray} {pc : Nat} (h : cc.data.toList[pc]? = some (59 : UInt8)) : decode cc pc = .ok (.istore_n 0, 1) := by
  have e0 : (Jvm.ClassFile.Decoder.instr pc) cc pc = .ok (.istore_n 0, pc + 1) := by
    unfold Jvm.ClassFile.Decoder.instr
    exact fq_b (fq_u1 (n := 59) h rfl) rfl
  have e := fq_of e0
  rw [Nat.add_sub_cancel_left] at e
  exact e
theorem fq1_60 {cc : ByteArray} {pc : Nat} (h : cc.data.toList[pc]? = some (60 : UInt8)) : decode cc pc = .ok (.istore_n 1, 1) := by
  have e0 : (Jvm.ClassFile.Decoder.instr pc) cc pc = .ok (.istore_n 1, pc + 1) := by
    unfold Jvm.ClassFile.Decoder.instr
    exact fq_b (fq_u1 (n := 60) h rfl) rfl
  have e := fq_of e0
  rw [Nat.add_sub_cancel_left] at e
  exact e
theorem fq1_61 {cc : ByteArray} {pc : Nat} (h : cc.data.toList[pc]? = some (61 : UInt8)) : decode cc pc = .ok (.istore_n 2, 1) := by
  have e0 : (Jvm.ClassFile.Decoder.instr pc) cc pc = .ok (.istore_n 2, pc + 1) := by
    unfold Jvm.ClassFile.Decoder.instr
    exact fq_b (fq_u1 (n := 61) h rfl) rfl
  have e := fq_of e0
  rw [Nat.add_sub_cancel_left] at e
  exact e
theorem fq1_62 {cc : ByteArray} {pc : Nat} (h : cc.data.toList[pc]? = some (62 : UInt8)) : decode cc pc = .ok (.istore_n 3, 1) := by
  have e0 : (Jvm.ClassFile.Decoder.instr pc) cc pc = .ok (.istore_n 3, pc + 1) := by
    unfold Jvm.ClassFile.Decoder.instr
    exact fq_b (fq_u1 (n := 62) h rfl) rfl
  have e := fq_of e0
  rw [Nat.add_sub_cancel_left] at e
  exact e
theorem fq1_64 {cc : ByteArray} {pc : Nat} (h : cc.data.toList[pc]? = some (64 : UInt8)) : decode cc pc = .ok (.lstore_n 1, 1) := by
  have e0 : (Jvm.ClassFile.Decoder.instr pc) cc pc = .ok (.lstore_n 1, pc + 1) := by
    unfold Jvm.ClassFile.Decoder.instr
    exact fq_b (fq_u1 (n := 64) h rfl) rfl
  have e := fq_of e0
  rw [Nat.add_sub_cancel_left] at e
  exact e
theorem fq1_66 {cc : ByteArray} {pc : Nat} (h : cc.data.toList[pc]? = some (66 : UInt8)) : decode cc pc = .ok (.lstore_n 3, 1) := by
  have e0 : (Jvm.ClassFile.Decoder.instr pc) cc pc = .ok (.lstore_n 3, pc + 1) := by
    unfold Jvm.ClassFile.Decoder.instr
    exact fq_b (fq_u1 (n := 66) h rfl) rfl
  have e := fq_of e0
  rw [Nat.add_sub_cancel_left] at e
  exact e
theorem fq1_76 {cc : ByteArray} {pc : Nat} (h : cc.data.toList[pc]? = some (76 : UInt8)) : decode cc pc = .ok (.astore_n 1, 1) := by
  have e0 : (Jvm.ClassFile.Decoder.instr pc) cc pc = .ok (.astore_n 1, pc + 1) := by
    unfold Jvm.ClassFile.Decoder.instr
    exact fq_b (fq_u1 (n := 76) h rfl) rfl
  have e := fq_of e0
  rw [Nat.add_sub_cancel_left] at e
  exact e
theorem fq1_77 {cc : ByteArray} {pc : Nat} (h : cc.data.toList[pc]? = some (77 : UInt8)) : decode cc pc = .ok (.astore_n 2, 1) := by
  have e0 : (Jvm.ClassFile.Decoder.instr pc) cc pc = .ok (.astore_n 2, pc + 1) := by
    unfold Jvm.ClassFile.Decoder.instr
    exact fq_b (fq_u1 (n := 77) h rfl) rfl
  have e := fq_of e0
  rw [Nat.add_sub_cancel_left] at e
  exact e
theorem fq1_78 {cc : ByteArray} {pc : Nat} (h : cc.data.toList[pc]? = some (78 : UInt8)) : decode cc pc = .ok (.astore_n 3, 1) := by
  have e0 : (Jvm.ClassFile.Decoder.instr pc) cc pc = .ok (.astore_n 3, pc + 1) := by
    unfold Jvm.ClassFile.Decoder.instr
    exact fq_b (fq_u1 (n := 78) h rfl) rfl
  have e := fq_of e0
  rw [Nat.add_sub_cancel_left] at e
  exact e
theorem fq1_79 {cc : ByteArray} {pc : Nat} (h : cc.data.toList[pc]? = some (79 : UInt8)) : decode cc pc = .ok (.iastore, 1) := by
  have e0 : (Jvm.ClassFile.Decoder.instr pc) cc pc = .ok (.iastore, pc + 1) := by
    unfold Jvm.ClassFile.Decoder.instr
    exact fq_b (fq_u1 (n := 79) h rfl) rfl
  have e := fq_of e0
  rw [Nat.add_sub_cancel_left] at e
  exact e
theorem fq1_80 {cc : ByteArray} {pc : Nat} (h : cc.data.toList[pc]? = some (80 : UInt8)) : decode cc pc = .ok (.lastore, 1) := by
  have e0 : (Jvm.ClassFile.Decoder.instr pc) cc pc = .ok (.lastore, pc + 1) := by
    unfold Jvm.ClassFile.Decoder.instr
    exact fq_b (fq_u1 (n := 80) h rfl) rfl
  have e := fq_of e0
  rw [Nat.add_sub_cancel_left] at e
  exact e
theorem fq1_83 {cc : ByteArray} {pc : Nat} (h : cc.data.toList[pc]? = some (83 : UInt8)) : decode cc pc = .ok (.aastore, 1) := by
  have e0 : (Jvm.ClassFile.Decoder.instr pc) cc pc = .ok (.aastore, pc + 1) := by
    unfold Jvm.ClassFile.Decoder.instr
    exact fq_b (fq_u1 (n := 83) h rfl) rfl
  have e := fq_of e0
  rw [Nat.add_sub_cancel_left] at e
  exact e
theorem fq1_84 {cc : ByteArray} {pc : Nat} (h : cc.data.toList[pc]? = some (84 : UInt8)) : decode cc pc = .ok (.bastore, 1) := by
  have e0 : (Jvm.ClassFile.Decoder.instr pc) cc pc = .ok (.bastore, pc + 1) := by
    unfold Jvm.ClassFile.Decoder.instr
    exact fq_b (fq_u1 (n := 84) h rfl) rfl
  have e := fq_of e0
  rw [Nat.add_sub_cancel_left] at e
  exact e
theorem fq1_89 {cc : ByteArray} {pc : Nat} (h : cc.data.toList[pc]? = some (89 : UInt8)) : decode cc pc = .ok (.dup, 1) := by
  have e0 : (Jvm.ClassFile.Decoder.instr pc) cc pc = .ok (.dup, pc + 1) := by
    unfold Jvm.ClassFile.Decoder.instr
    exact fq_b (fq_u1 (n := 89) h rfl) rfl
  have e := fq_of e0
  rw [Nat.add_sub_cancel_left] at e
  exact e
theorem fq1_92 {cc : ByteArray} {pc : Nat} (h : cc.data.toList[pc]? = some (92 : UInt8)) : decode cc pc = .ok (.dup2, 1) := by
  have e0 : (Jvm.ClassFile.Decoder.instr pc) cc pc = .ok (.dup2, pc + 1) := by
    unfold Jvm.ClassFile.Decoder.instr
    exact fq_b (fq_u1 (n := 92) h rfl) rfl
  have e := fq_of e0
  rw [Nat.add_sub_cancel_left] at e
  exact e
theorem fq1_97 {cc : ByteArray} {pc : Nat} (h : cc.data.toList[pc]? = some (97 : UInt8)) : decode cc pc = .ok (.ladd, 1) := by
  have e0 : (Jvm.ClassFile.Decoder.instr pc) cc pc = .ok (.ladd, pc + 1) := by
    unfold Jvm.ClassFile.Decoder.instr
    exact fq_b (fq_u1 (n := 97) h rfl) rfl
  have e := fq_of e0
  rw [Nat.add_sub_cancel_left] at e
  exact e
theorem fq1_100 {cc : ByteArray} {pc : Nat} (h : cc.data.toList[pc]? = some (100 : UInt8)) : decode cc pc = .ok (.isub, 1) := by
  have e0 : (Jvm.ClassFile.Decoder.instr pc) cc pc = .ok (.isub, pc + 1) := by
    unfold Jvm.ClassFile.Decoder.instr
    exact fq_b (fq_u1 (n := 100) h rfl) rfl
  have e := fq_of e0
  rw [Nat.add_sub_cancel_left] at e
  exact e
theorem fq1_101 {cc : ByteArray} {pc : Nat} (h : cc.data.toList[pc]? = some (101 : UInt8)) : decode cc pc = .ok (.lsub, 1) := by
  have e0 : (Jvm.ClassFile.Decoder.instr pc) cc pc = .ok (.lsub, pc + 1) := by
    unfold Jvm.ClassFile.Decoder.instr
    exact fq_b (fq_u1 (n := 101) h rfl) rfl
  have e := fq_of e0
  rw [Nat.add_sub_cancel_left] at e
  exact e
theorem fq1_104 {cc : ByteArray} {pc : Nat} (h : cc.data.toList[pc]? = some (104 : UInt8)) : decode cc pc = .ok (.imul, 1) := by
  have e0 : (Jvm.ClassFile.Decoder.instr pc) cc pc = .ok (.imul, pc + 1) := by
    unfold Jvm.ClassFile.Decoder.instr
    exact fq_b (fq_u1 (n := 104) h rfl) rfl
  have e := fq_of e0
  rw [Nat.add_sub_cancel_left] at e
  exact e
theorem fq1_105 {cc : ByteArray} {pc : Nat} (h : cc.data.toList[pc]? = some (105 : UInt8)) : decode cc pc = .ok (.lmul, 1) := by
  have e0 : (Jvm.ClassFile.Decoder.instr pc) cc pc = .ok (.lmul, pc + 1) := by
    unfold Jvm.ClassFile.Decoder.instr
    exact fq_b (fq_u1 (n := 105) h rfl) rfl
  have e := fq_of e0
  rw [Nat.add_sub_cancel_left] at e
  exact e
theorem fq1_108 {cc : ByteArray} {pc : Nat} (h : cc.data.toList[pc]? = some (108 : UInt8)) : decode cc pc = .ok (.idiv, 1) := by
  have e0 : (Jvm.ClassFile.Decoder.instr pc) cc pc = .ok (.idiv, pc + 1) := by
    unfold Jvm.ClassFile.Decoder.instr
    exact fq_b (fq_u1 (n := 108) h rfl) rfl
  have e := fq_of e0
  rw [Nat.add_sub_cancel_left] at e
  exact e
theorem fq1_109 {cc : ByteArray} {pc : Nat} (h : cc.data.toList[pc]? = some (109 : UInt8)) : decode cc pc = .ok (.ldiv, 1) := by
  have e0 : (Jvm.ClassFile.Decoder.instr pc) cc pc = .ok (.ldiv, pc + 1) := by
    unfold Jvm.ClassFile.Decoder.instr
    exact fq_b (fq_u1 (n := 109) h rfl) rfl
  have e := fq_of e0
  rw [Nat.add_sub_cancel_left] at e
  exact e
theorem fq1_112 {cc : ByteArray} {pc : Nat} (h : cc.data.toList[pc]? = some (112 : UInt8)) : decode cc pc = .ok (.irem, 1) := by
  have e0 : (Jvm.ClassFile.Decoder.instr pc) cc pc = .ok (.irem, pc + 1) := by
    unfold Jvm.ClassFile.Decoder.instr
    exact fq_b (fq_u1 (n := 112) h rfl) rfl
  have e := fq_of e0
  rw [Nat.add_sub_cancel_left] at e
  exact e
theorem fq1_113 {cc : ByteArray} {pc : Nat} (h : cc.data.toList[pc]? = some (113 : UInt8)) : decode cc pc = .ok (.lrem, 1) := by
  have e0 : (Jvm.ClassFile.Decoder.instr pc) cc pc = .ok (.lrem, pc + 1) := by
    unfold Jvm.ClassFile.Decoder.instr
    exact fq_b (fq_u1 (n := 113) h rfl) rfl
  have e := fq_of e0
  rw [Nat.add_sub_cancel_left] at e
  exact e
theorem fq1_116 {cc : ByteArray} {pc : Nat} (h : cc.data.toList[pc]? = some (116 : UInt8)) : decode cc pc = .ok (.ineg, 1) := by
  have e0 : (Jvm.ClassFile.Decoder.instr pc) cc pc = .ok (.ineg, pc + 1) := by
    unfold Jvm.ClassFile.Decoder.instr
    exact fq_b (fq_u1 (n := 116) h rfl) rfl
  have e := fq_of e0
  rw [Nat.add_sub_cancel_left] at e
  exact e
theorem fq1_120 {cc : ByteArray} {pc : Nat} (h : cc.data.toList[pc]? = some (120 : UInt8)) : decode cc pc = .ok (.ishl, 1) := by
  have e0 : (Jvm.ClassFile.Decoder.instr pc) cc pc = .ok (.ishl, pc + 1) := by
    unfold Jvm.ClassFile.Decoder.instr
    exact fq_b (fq_u1 (n := 120) h rfl) rfl
  have e := fq_of e0
  rw [Nat.add_sub_cancel_left] at e
  exact e
theorem fq1_122 {cc : ByteArray} {pc : Nat} (h : cc.data.toList[pc]? = some (122 : UInt8)) : decode cc pc = .ok (.ishr, 1) := by
  have e0 : (Jvm.ClassFile.Decoder.instr pc) cc pc = .ok (.ishr, pc + 1) := by
    unfold Jvm.ClassFile.Decoder.instr
    exact fq_b (fq_u1 (n := 122) h rfl) rfl
  have e := fq_of e0
  rw [Nat.add_sub_cancel_left] at e
  exact e
theorem fq1_123 {cc : ByteArray} {pc : Nat} (h : cc.data.toList[pc]? = some (123 : UInt8)) : decode cc pc = .ok (.lshr, 1) := by
  have e0 : (Jvm.ClassFile.Decoder.instr pc) cc pc = .ok (.lshr, pc + 1) := by
    unfold Jvm.ClassFile.Decoder.instr
    exact fq_b (fq_u1 (n := 123) h rfl) rfl
  have e := fq_of e0
  rw [Nat.add_sub_cancel_left] at e
  exact e
theorem fq1_124 {cc : ByteArray} {pc : Nat} (h : cc.data.toList[pc]? = some (124 : UInt8)) : decode cc pc = .ok (.iushr, 1) := by
  have e0 : (Jvm.ClassFile.Decoder.instr pc) cc pc = .ok (.iushr, pc + 1) := by
    unfold Jvm.ClassFile.Decoder.instr
    exact fq_b (fq_u1 (n := 124) h rfl) rfl
  have e := fq_of e0
  rw [Nat.add_sub_cancel_left] at e
  exact e
theorem fq1_126 {cc : ByteArray} {pc : Nat} (h : cc.data.toList[pc]? = some (126 : UInt8)) : decode cc pc = .ok (.iand, 1) := by
  have e0 : (Jvm.ClassFile.Decoder.instr pc) cc pc = .ok (.iand, pc + 1) := by
    unfold Jvm.ClassFile.Decoder.instr
    exact fq_b (fq_u1 (n := 126) h rfl) rfl
  have e := fq_of e0
  rw [Nat.add_sub_cancel_left] at e
  exact e
theorem fq1_128 {cc : ByteArray} {pc : Nat} (h : cc.data.toList[pc]? = some (128 : UInt8)) : decode cc pc = .ok (.ior, 1) := by
  have e0 : (Jvm.ClassFile.Decoder.instr pc) cc pc = .ok (.ior, pc + 1) := by
    unfold Jvm.ClassFile.Decoder.instr
    exact fq_b (fq_u1 (n := 128) h rfl) rfl
  have e := fq_of e0
  rw [Nat.add_sub_cancel_left] at e
  exact e
theorem fq1_130 {cc : ByteArray} {pc : Nat} (h : cc.data.toList[pc]? = some (130 : UInt8)) : decode cc pc = .ok (.ixor, 1) := by
  have e0 : (Jvm.ClassFile.Decoder.instr pc) cc pc = .ok (.ixor, pc + 1) := by
    unfold Jvm.ClassFile.Decoder.instr
    exact fq_b (fq_u1 (n := 130) h rfl) rfl
  have e := fq_of e0
  rw [Nat.add_sub_cancel_left] at e
  exact e
theorem fq3_132 {cc : ByteArray} {pc v : Nat} {w : Int} {x y : UInt8} (h : cc.data.toList[pc]? = some (132 : UInt8)) (h1 : cc.data.toList[pc + 1]? = some x) (h2 : cc.data.toList[pc + 1 + 1]? = some y) (hv : x.toNat = v) (hw : Jvm.ClassFile.Reader.signed 8 y.toNat = w) : decode cc pc = .ok (.iinc v w, 3) := by
  have e0 : (Jvm.ClassFile.Decoder.instr pc) cc pc = .ok (.iinc v w, pc + 3) := by
    unfold Jvm.ClassFile.Decoder.instr
    refine fq_b (fq_u1 (n := 132) h rfl) ?_
    show ((Jvm.ClassFile.Reader.u1 : Jvm.ClassFile.Decoder Nat) >>= fun z => (Jvm.ClassFile.Reader.s1 : Jvm.ClassFile.Decoder Int) >>= fun z2 => pure (Instr.iinc z z2)) cc (pc + 1) = _
    refine fq_b (fq_u1 h1 hv) ?_
    refine fq_b (a := w) (q := pc + 3) ?_ rfl
    unfold Jvm.ClassFile.Reader.s1
    rw [← hw]
    exact fq_m (fq_u1 h2 rfl)
  have e := fq_of e0
  rw [Nat.add_sub_cancel_left] at e
  exact e
theorem fq1_136 {cc : ByteArray} {pc : Nat} (h : cc.data.toList[pc]? = some (136 : UInt8)) : decode cc pc = .ok (.l2i, 1) := by
  have e0 : (Jvm.ClassFile.Decoder.instr pc) cc pc = .ok (.l2i, pc + 1) := by
    unfold Jvm.ClassFile.Decoder.instr
    exact fq_b (fq_u1 (n := 136) h rfl) rfl
  have e := fq_of e0
  rw [Nat.add_sub_cancel_left] at e
  exact e
theorem fq1_145 {cc : ByteArray} {pc : Nat} (h : cc.data.toList[pc]? = some (145 : UInt8)) : decode cc pc = .ok (.i2b, 1) := by
  have e0 : (Jvm.ClassFile.Decoder.instr pc) cc pc = .ok (.i2b, pc + 1) := by
    unfold Jvm.ClassFile.Decoder.instr
    exact fq_b (fq_u1 (n := 145) h rfl) rfl
  have e := fq_of e0
  rw [Nat.add_sub_cancel_left] at e
  exact e
theorem fq1_146 {cc : ByteArray} {pc : Nat} (h : cc.data.toList[pc]? = some (146 : UInt8)) : decode cc pc = .ok (.i2c, 1) := by
  have e0 : (Jvm.ClassFile.Decoder.instr pc) cc pc = .ok (.i2c, pc + 1) := by
    unfold Jvm.ClassFile.Decoder.instr
    exact fq_b (fq_u1 (n := 146) h rfl) rfl
  have e := fq_of e0
  rw [Nat.add_sub_cancel_left] at e
  exact e
theorem fq1_147 {cc : ByteArray} {pc : Nat} (h : cc.data.toList[pc]? = some (147 : UInt8)) : decode cc pc = .ok (.i2s, 1) := by
  have e0 : (Jvm.ClassFile.Decoder.instr pc) cc pc = .ok (.i2s, pc + 1) := by
    unfold Jvm.ClassFile.Decoder.instr
    exact fq_b (fq_u1 (n := 147) h rfl) rfl
  have e := fq_of e0
  rw [Nat.add_sub_cancel_left] at e
  exact e
theorem fq1_148 {cc : ByteArray} {pc : Nat} (h : cc.data.toList[pc]? = some (148 : UInt8)) : decode cc pc = .ok (.lcmp, 1) := by
  have e0 : (Jvm.ClassFile.Decoder.instr pc) cc pc = .ok (.lcmp, pc + 1) := by
    unfold Jvm.ClassFile.Decoder.instr
    exact fq_b (fq_u1 (n := 148) h rfl) rfl
  have e := fq_of e0
  rw [Nat.add_sub_cancel_left] at e
  exact e
theorem fq3_153 {cc : ByteArray} {pc : Nat} {v : Int} {x y : UInt8} (h : cc.data.toList[pc]? = some (153 : UInt8)) (h1 : cc.data.toList[pc + 1]? = some x) (h2 : cc.data.toList[pc + 1 + 1]? = some y) (hv : Jvm.ClassFile.Reader.signed 16 (x.toNat * 256 + y.toNat) = v) : decode cc pc = .ok (.ifCond .eq v, 3) := by
  have e0 : (Jvm.ClassFile.Decoder.instr pc) cc pc = .ok (.ifCond .eq v, pc + 3) := by
    unfold Jvm.ClassFile.Decoder.instr
    refine fq_b (fq_u1 (n := 153) h rfl) ?_
    show ((Jvm.ClassFile.Reader.s2 : Jvm.ClassFile.Decoder Int) >>= fun z => pure (Instr.ifCond .eq z)) cc (pc + 1) = _
    refine fq_b (a := v) (q := pc + 3) ?_ rfl
    unfold Jvm.ClassFile.Reader.s2
    rw [← hv]
    exact fq_m (fq_u2 h1 h2)
  have e := fq_of e0
  rw [Nat.add_sub_cancel_left] at e
  exact e
theorem fq3_154 {cc : ByteArray} {pc : Nat} {v : Int} {x y : UInt8} (h : cc.data.toList[pc]? = some (154 : UInt8)) (h1 : cc.data.toList[pc + 1]? = some x) (h2 : cc.data.toList[pc + 1 + 1]? = some y) (hv : Jvm.ClassFile.Reader.signed 16 (x.toNat * 256 + y.toNat) = v) : decode cc pc = .ok (.ifCond .ne v, 3) := by
  have e0 : (Jvm.ClassFile.Decoder.instr pc) cc pc = .ok (.ifCond .ne v, pc + 3) := by
    unfold Jvm.ClassFile.Decoder.instr
    refine fq_b (fq_u1 (n := 154) h rfl) ?_
    show ((Jvm.ClassFile.Reader.s2 : Jvm.ClassFile.Decoder Int) >>= fun z => pure (Instr.ifCond .ne z)) cc (pc + 1) = _
    refine fq_b (a := v) (q := pc + 3) ?_ rfl
    unfold Jvm.ClassFile.Reader.s2
    rw [← hv]
    exact fq_m (fq_u2 h1 h2)
  have e := fq_of e0
  rw [Nat.add_sub_cancel_left] at e
  exact e
theorem fq3_155 {cc : ByteArray} {pc : Nat} {v : Int} {x y : UInt8} (h : cc.data.toList[pc]? = some (155 : UInt8)) (h1 : cc.data.toList[pc + 1]? = some x) (h2 : cc.data.toList[pc + 1 + 1]? = some y) (hv : Jvm.ClassFile.Reader.signed 16 (x.toNat * 256 + y.toNat) = v) : decode cc pc = .ok (.ifCond .lt v, 3) := by
  have e0 : (Jvm.ClassFile.Decoder.instr pc) cc pc = .ok (.ifCond .lt v, pc + 3) := by
    unfold Jvm.ClassFile.Decoder.instr
    refine fq_b (fq_u1 (n := 155) h rfl) ?_
    show ((Jvm.ClassFile.Reader.s2 : Jvm.ClassFile.Decoder Int) >>= fun z => pure (Instr.ifCond .lt z)) cc (pc + 1) = _
    refine fq_b (a := v) (q := pc + 3) ?_ rfl
    unfold Jvm.ClassFile.Reader.s2
    rw [← hv]
    exact fq_m (fq_u2 h1 h2)
  have e := fq_of e0
  rw [Nat.add_sub_cancel_left] at e
  exact e
theorem fq3_156 {cc : ByteArray} {pc : Nat} {v : Int} {x y : UInt8} (h : cc.data.toList[pc]? = some (156 : UInt8)) (h1 : cc.data.toList[pc + 1]? = some x) (h2 : cc.data.toList[pc + 1 + 1]? = some y) (hv : Jvm.ClassFile.Reader.signed 16 (x.toNat * 256 + y.toNat) = v) : decode cc pc = .ok (.ifCond .ge v, 3) := by
  have e0 : (Jvm.ClassFile.Decoder.instr pc) cc pc = .ok (.ifCond .ge v, pc + 3) := by
    unfold Jvm.ClassFile.Decoder.instr
    refine fq_b (fq_u1 (n := 156) h rfl) ?_
    show ((Jvm.ClassFile.Reader.s2 : Jvm.ClassFile.Decoder Int) >>= fun z => pure (Instr.ifCond .ge z)) cc (pc + 1) = _
    refine fq_b (a := v) (q := pc + 3) ?_ rfl
    unfold Jvm.ClassFile.Reader.s2
    rw [← hv]
    exact fq_m (fq_u2 h1 h2)
  have e := fq_of e0
  rw [Nat.add_sub_cancel_left] at e
  exact e
theorem fq3_157 {cc : ByteArray} {pc : Nat} {v : Int} {x y : UInt8} (h : cc.data.toList[pc]? = some (157 : UInt8)) (h1 : cc.data.toList[pc + 1]? = some x) (h2 : cc.data.toList[pc + 1 + 1]? = some y) (hv : Jvm.ClassFile.Reader.signed 16 (x.toNat * 256 + y.toNat) = v) : decode cc pc = .ok (.ifCond .gt v, 3) := by
  have e0 : (Jvm.ClassFile.Decoder.instr pc) cc pc = .ok (.ifCond .gt v, pc + 3) := by
    unfold Jvm.ClassFile.Decoder.instr
    refine fq_b (fq_u1 (n := 157) h rfl) ?_
    show ((Jvm.ClassFile.Reader.s2 : Jvm.ClassFile.Decoder Int) >>= fun z => pure (Instr.ifCond .gt z)) cc (pc + 1) = _
    refine fq_b (a := v) (q := pc + 3) ?_ rfl
    unfold Jvm.ClassFile.Reader.s2
    rw [← hv]
    exact fq_m (fq_u2 h1 h2)
  have e := fq_of e0
  rw [Nat.add_sub_cancel_left] at e
  exact e
theorem fq3_158 {cc : ByteArray} {pc : Nat} {v : Int} {x y : UInt8} (h : cc.data.toList[pc]? = some (158 : UInt8)) (h1 : cc.data.toList[pc + 1]? = some x) (h2 : cc.data.toList[pc + 1 + 1]? = some y) (hv : Jvm.ClassFile.Reader.signed 16 (x.toNat * 256 + y.toNat) = v) : decode cc pc = .ok (.ifCond .le v, 3) := by
  have e0 : (Jvm.ClassFile.Decoder.instr pc) cc pc = .ok (.ifCond .le v, pc + 3) := by
    unfold Jvm.ClassFile.Decoder.instr
    refine fq_b (fq_u1 (n := 158) h rfl) ?_
    show ((Jvm.ClassFile.Reader.s2 : Jvm.ClassFile.Decoder Int) >>= fun z => pure (Instr.ifCond .le z)) cc (pc + 1) = _
    refine fq_b (a := v) (q := pc + 3) ?_ rfl
    unfold Jvm.ClassFile.Reader.s2
    rw [← hv]
    exact fq_m (fq_u2 h1 h2)
  have e := fq_of e0
  rw [Nat.add_sub_cancel_left] at e
  exact e
theorem fq3_159 {cc : ByteArray} {pc : Nat} {v : Int} {x y : UInt8} (h : cc.data.toList[pc]? = some (159 : UInt8)) (h1 : cc.data.toList[pc + 1]? = some x) (h2 : cc.data.toList[pc + 1 + 1]? = some y) (hv : Jvm.ClassFile.Reader.signed 16 (x.toNat * 256 + y.toNat) = v) : decode cc pc = .ok (.if_icmp .eq v, 3) := by
  have e0 : (Jvm.ClassFile.Decoder.instr pc) cc pc = .ok (.if_icmp .eq v, pc + 3) := by
    unfold Jvm.ClassFile.Decoder.instr
    refine fq_b (fq_u1 (n := 159) h rfl) ?_
    show ((Jvm.ClassFile.Reader.s2 : Jvm.ClassFile.Decoder Int) >>= fun z => pure (Instr.if_icmp .eq z)) cc (pc + 1) = _
    refine fq_b (a := v) (q := pc + 3) ?_ rfl
    unfold Jvm.ClassFile.Reader.s2
    rw [← hv]
    exact fq_m (fq_u2 h1 h2)
  have e := fq_of e0
  rw [Nat.add_sub_cancel_left] at e
  exact e
theorem fq3_160 {cc : ByteArray} {pc : Nat} {v : Int} {x y : UInt8} (h : cc.data.toList[pc]? = some (160 : UInt8)) (h1 : cc.data.toList[pc + 1]? = some x) (h2 : cc.data.toList[pc + 1 + 1]? = some y) (hv : Jvm.ClassFile.Reader.signed 16 (x.toNat * 256 + y.toNat) = v) : decode cc pc = .ok (.if_icmp .ne v, 3) := by
  have e0 : (Jvm.ClassFile.Decoder.instr pc) cc pc = .ok (.if_icmp .ne v, pc + 3) := by
    unfold Jvm.ClassFile.Decoder.instr
    refine fq_b (fq_u1 (n := 160) h rfl) ?_
    show ((Jvm.ClassFile.Reader.s2 : Jvm.ClassFile.Decoder Int) >>= fun z => pure (Instr.if_icmp .ne z)) cc (pc + 1) = _
    refine fq_b (a := v) (q := pc + 3) ?_ rfl
    unfold Jvm.ClassFile.Reader.s2
    rw [← hv]
    exact fq_m (fq_u2 h1 h2)
  have e := fq_of e0
  rw [Nat.add_sub_cancel_left] at e
  exact e
theorem fq3_161 {cc : ByteArray} {pc : Nat} {v : Int} {x y : UInt8} (h : cc.data.toList[pc]? = some (161 : UInt8)) (h1 : cc.data.toList[pc + 1]? = some x) (h2 : cc.data.toList[pc + 1 + 1]? = some y) (hv : Jvm.ClassFile.Reader.signed 16 (x.toNat * 256 + y.toNat) = v) : decode cc pc = .ok (.if_icmp .lt v, 3) := by
  have e0 : (Jvm.ClassFile.Decoder.instr pc) cc pc = .ok (.if_icmp .lt v, pc + 3) := by
    unfold Jvm.ClassFile.Decoder.instr
    refine fq_b (fq_u1 (n := 161) h rfl) ?_
    show ((Jvm.ClassFile.Reader.s2 : Jvm.ClassFile.Decoder Int) >>= fun z => pure (Instr.if_icmp .lt z)) cc (pc + 1) = _
    refine fq_b (a := v) (q := pc + 3) ?_ rfl
    unfold Jvm.ClassFile.Reader.s2
    rw [← hv]
    exact fq_m (fq_u2 h1 h2)
  have e := fq_of e0
  rw [Nat.add_sub_cancel_left] at e
  exact e
theorem fq3_162 {cc : ByteArray} {pc : Nat} {v : Int} {x y : UInt8} (h : cc.data.toList[pc]? = some (162 : UInt8)) (h1 : cc.data.toList[pc + 1]? = some x) (h2 : cc.data.toList[pc + 1 + 1]? = some y) (hv : Jvm.ClassFile.Reader.signed 16 (x.toNat * 256 + y.toNat) = v) : decode cc pc = .ok (.if_icmp .ge v, 3) := by
  have e0 : (Jvm.ClassFile.Decoder.instr pc) cc pc = .ok (.if_icmp .ge v, pc + 3) := by
    unfold Jvm.ClassFile.Decoder.instr
    refine fq_b (fq_u1 (n := 162) h rfl) ?_
    show ((Jvm.ClassFile.Reader.s2 : Jvm.ClassFile.Decoder Int) >>= fun z => pure (Instr.if_icmp .ge z)) cc (pc + 1) = _
    refine fq_b (a := v) (q := pc + 3) ?_ rfl
    unfold Jvm.ClassFile.Reader.s2
    rw [← hv]
    exact fq_m (fq_u2 h1 h2)
  have e := fq_of e0
  rw [Nat.add_sub_cancel_left] at e
  exact e
theorem fq3_163 {cc : ByteArray} {pc : Nat} {v : Int} {x y : UInt8} (h : cc.data.toList[pc]? = some (163 : UInt8)) (h1 : cc.data.toList[pc + 1]? = some x) (h2 : cc.data.toList[pc + 1 + 1]? = some y) (hv : Jvm.ClassFile.Reader.signed 16 (x.toNat * 256 + y.toNat) = v) : decode cc pc = .ok (.if_icmp .gt v, 3) := by
  have e0 : (Jvm.ClassFile.Decoder.instr pc) cc pc = .ok (.if_icmp .gt v, pc + 3) := by
    unfold Jvm.ClassFile.Decoder.instr
    refine fq_b (fq_u1 (n := 163) h rfl) ?_
    show ((Jvm.ClassFile.Reader.s2 : Jvm.ClassFile.Decoder Int) >>= fun z => pure (Instr.if_icmp .gt z)) cc (pc + 1) = _
    refine fq_b (a := v) (q := pc + 3) ?_ rfl
    unfold Jvm.ClassFile.Reader.s2
    rw [← hv]
    exact fq_m (fq_u2 h1 h2)
  have e := fq_of e0
  rw [Nat.add_sub_cancel_left] at e
  exact e
theorem fq3_164 {cc : ByteArray} {pc : Nat} {v : Int} {x y : UInt8} (h : cc.data.toList[pc]? = some (164 : UInt8)) (h1 : cc.data.toList[pc + 1]? = some x) (h2 : cc.data.toList[pc + 1 + 1]? = some y) (hv : Jvm.ClassFile.Reader.signed 16 (x.toNat * 256 + y.toNat) = v) : decode cc pc = .ok (.if_icmp .le v, 3) := by
  have e0 : (Jvm.ClassFile.Decoder.instr pc) cc pc = .ok (.if_icmp .le v, pc + 3) := by
    unfold Jvm.ClassFile.Decoder.instr
    refine fq_b (fq_u1 (n := 164) h rfl) ?_
    show ((Jvm.ClassFile.Reader.s2 : Jvm.ClassFile.Decoder Int) >>= fun z => pure (Instr.if_icmp .le z)) cc (pc + 1) = _
    refine fq_b (a := v) (q := pc + 3) ?_ rfl
    unfold Jvm.ClassFile.Reader.s2
    rw [← hv]
    exact fq_m (fq_u2 h1 h2)
  have e := fq_of e0
  rw [Nat.add_sub_cancel_left] at e
  exact e
theorem fq1_172 {cc : ByteArray} {pc : Nat} (h : cc.data.toList[pc]? = some (172 : UInt8)) : decode cc pc = .ok (.ireturn, 1) := by
  have e0 : (Jvm.ClassFile.Decoder.instr pc) cc pc = .ok (.ireturn, pc + 1) := by
    unfold Jvm.ClassFile.Decoder.instr
    exact fq_b (fq_u1 (n := 172) h rfl) rfl
  have e := fq_of e0
  rw [Nat.add_sub_cancel_left] at e
  exact e
theorem fq1_173 {cc : ByteArray} {pc : Nat} (h : cc.data.toList[pc]? = some (173 : UInt8)) : decode cc pc = .ok (.lreturn, 1) := by
  have e0 : (Jvm.ClassFile.Decoder.instr pc) cc pc = .ok (.lreturn, pc + 1) := by
    unfold Jvm.ClassFile.Decoder.instr
    exact fq_b (fq_u1 (n := 173) h rfl) rfl
  have e := fq_of e0
  rw [Nat.add_sub_cancel_left] at e
  exact e
theorem fq1_177 {cc : ByteArray} {pc : Nat} (h : cc.data.toList[pc]? = some (177 : UInt8)) : decode cc pc = .ok (.return_, 1) := by
  have e0 : (Jvm.ClassFile.Decoder.instr pc) cc pc = .ok (.return_, pc + 1) := by
    unfold Jvm.ClassFile.Decoder.instr
    exact fq_b (fq_u1 (n := 177) h rfl) rfl
  have e := fq_of e0
  rw [Nat.add_sub_cancel_left] at e
  exact e
theorem fq3_178 {cc : ByteArray} {pc : Nat} {v : Nat} {x y : UInt8} (h : cc.data.toList[pc]? = some (178 : UInt8)) (h1 : cc.data.toList[pc + 1]? = some x) (h2 : cc.data.toList[pc + 1 + 1]? = some y) (hv : x.toNat * 256 + y.toNat = v) : decode cc pc = .ok (.getstatic v, 3) := by
  have e0 : (Jvm.ClassFile.Decoder.instr pc) cc pc = .ok (.getstatic v, pc + 3) := by
    unfold Jvm.ClassFile.Decoder.instr
    refine fq_b (fq_u1 (n := 178) h rfl) ?_
    show ((Jvm.ClassFile.Reader.u2 : Jvm.ClassFile.Decoder Nat) >>= fun z => pure (Instr.getstatic z)) cc (pc + 1) = _
    exact fq_b (fq_u2 h1 h2) (by subst hv; rfl)
  have e := fq_of e0
  rw [Nat.add_sub_cancel_left] at e
  exact e
theorem fq3_180 {cc : ByteArray} {pc : Nat} {v : Nat} {x y : UInt8} (h : cc.data.toList[pc]? = some (180 : UInt8)) (h1 : cc.data.toList[pc + 1]? = some x) (h2 : cc.data.toList[pc + 1 + 1]? = some y) (hv : x.toNat * 256 + y.toNat = v) : decode cc pc = .ok (.getfield v, 3) := by
  have e0 : (Jvm.ClassFile.Decoder.instr pc) cc pc = .ok (.getfield v, pc + 3) := by
    unfold Jvm.ClassFile.Decoder.instr
    refine fq_b (fq_u1 (n := 180) h rfl) ?_
    show ((Jvm.ClassFile.Reader.u2 : Jvm.ClassFile.Decoder Nat) >>= fun z => pure (Instr.getfield z)) cc (pc + 1) = _
    exact fq_b (fq_u2 h1 h2) (by subst hv; rfl)
  have e := fq_of e0
  rw [Nat.add_sub_cancel_left] at e
  exact e
theorem fq3_181 {cc : ByteArray} {pc : Nat} {v : Nat} {x y : UInt8} (h : cc.data.toList[pc]? = some (181 : UInt8)) (h1 : cc.data.toList[pc + 1]? = some x) (h2 : cc.data.toList[pc + 1 + 1]? = some y) (hv : x.toNat * 256 + y.toNat = v) : decode cc pc = .ok (.putfield v, 3) := by
  have e0 : (Jvm.ClassFile.Decoder.instr pc) cc pc = .ok (.putfield v, pc + 3) := by
    unfold Jvm.ClassFile.Decoder.instr
    refine fq_b (fq_u1 (n := 181) h rfl) ?_
    show ((Jvm.ClassFile.Reader.u2 : Jvm.ClassFile.Decoder Nat) >>= fun z => pure (Instr.putfield z)) cc (pc + 1) = _
    exact fq_b (fq_u2 h1 h2) (by subst hv; rfl)
  have e := fq_of e0
  rw [Nat.add_sub_cancel_left] at e
  exact e
theorem fq3_183 {cc : ByteArray} {pc : Nat} {v : Nat} {x y : UInt8} (h : cc.data.toList[pc]? = some (183 : UInt8)) (h1 : cc.data.toList[pc + 1]? = some x) (h2 : cc.data.toList[pc + 1 + 1]? = some y) (hv : x.toNat * 256 + y.toNat = v) : decode cc pc = .ok (.invokespecial v, 3) := by
  have e0 : (Jvm.ClassFile.Decoder.instr pc) cc pc = .ok (.invokespecial v, pc + 3) := by
    unfold Jvm.ClassFile.Decoder.instr
    refine fq_b (fq_u1 (n := 183) h rfl) ?_
    show ((Jvm.ClassFile.Reader.u2 : Jvm.ClassFile.Decoder Nat) >>= fun z => pure (Instr.invokespecial z)) cc (pc + 1) = _
    exact fq_b (fq_u2 h1 h2) (by subst hv; rfl)
  have e := fq_of e0
  rw [Nat.add_sub_cancel_left] at e
  exact e
theorem fq3_184 {cc : ByteArray} {pc : Nat} {v : Nat} {x y : UInt8} (h : cc.data.toList[pc]? = some (184 : UInt8)) (h1 : cc.data.toList[pc + 1]? = some x) (h2 : cc.data.toList[pc + 1 + 1]? = some y) (hv : x.toNat * 256 + y.toNat = v) : decode cc pc = .ok (.invokestatic v, 3) := by
  have e0 : (Jvm.ClassFile.Decoder.instr pc) cc pc = .ok (.invokestatic v, pc + 3) := by
    unfold Jvm.ClassFile.Decoder.instr
    refine fq_b (fq_u1 (n := 184) h rfl) ?_
    show ((Jvm.ClassFile.Reader.u2 : Jvm.ClassFile.Decoder Nat) >>= fun z => pure (Instr.invokestatic z)) cc (pc + 1) = _
    exact fq_b (fq_u2 h1 h2) (by subst hv; rfl)
  have e := fq_of e0
  rw [Nat.add_sub_cancel_left] at e
  exact e
theorem fq3_187 {cc : ByteArray} {pc : Nat} {v : Nat} {x y : UInt8} (h : cc.data.toList[pc]? = some (187 : UInt8)) (h1 : cc.data.toList[pc + 1]? = some x) (h2 : cc.data.toList[pc + 1 + 1]? = some y) (hv : x.toNat * 256 + y.toNat = v) : decode cc pc = .ok (.new v, 3) := by
  have e0 : (Jvm.ClassFile.Decoder.instr pc) cc pc = .ok (.new v, pc + 3) := by
    unfold Jvm.ClassFile.Decoder.instr
    refine fq_b (fq_u1 (n := 187) h rfl) ?_
    show ((Jvm.ClassFile.Reader.u2 : Jvm.ClassFile.Decoder Nat) >>= fun z => pure (Instr.new z)) cc (pc + 1) = _
    exact fq_b (fq_u2 h1 h2) (by subst hv; rfl)
  have e := fq_of e0
  rw [Nat.add_sub_cancel_left] at e
  exact e
theorem fq3_189 {cc : ByteArray} {pc : Nat} {v : Nat} {x y : UInt8} (h : cc.data.toList[pc]? = some (189 : UInt8)) (h1 : cc.data.toList[pc + 1]? = some x) (h2 : cc.data.toList[pc + 1 + 1]? = some y) (hv : x.toNat * 256 + y.toNat = v) : decode cc pc = .ok (.anewarray v, 3) := by
  have e0 : (Jvm.ClassFile.Decoder.instr pc) cc pc = .ok (.anewarray v, pc + 3) := by
    unfold Jvm.ClassFile.Decoder.instr
    refine fq_b (fq_u1 (n := 189) h rfl) ?_
    show ((Jvm.ClassFile.Reader.u2 : Jvm.ClassFile.Decoder Nat) >>= fun z => pure (Instr.anewarray z)) cc (pc + 1) = _
    exact fq_b (fq_u2 h1 h2) (by subst hv; rfl)
  have e := fq_of e0
  rw [Nat.add_sub_cancel_left] at e
  exact e
theorem fq1_190 {cc : ByteArray} {pc : Nat} (h : cc.data.toList[pc]? = some (190 : UInt8)) : decode cc pc = .ok (.arraylength, 1) := by
  have e0 : (Jvm.ClassFile.Decoder.instr pc) cc pc = .ok (.arraylength, pc + 1) := by
    unfold Jvm.ClassFile.Decoder.instr
    exact fq_b (fq_u1 (n := 190) h rfl) rfl
  have e := fq_of e0
  rw [Nat.add_sub_cancel_left] at e
  exact e
theorem fq3_198 {cc : ByteArray} {pc : Nat} {v : Int} {x y : UInt8} (h : cc.data.toList[pc]? = some (198 : UInt8)) (h1 : cc.data.toList[pc + 1]? = some x) (h2 : cc.data.toList[pc + 1 + 1]? = some y) (hv : Jvm.ClassFile.Reader.signed 16 (x.toNat * 256 + y.toNat) = v) : decode cc pc = .ok (.ifnull v, 3) := by
  have e0 : (Jvm.ClassFile.Decoder.instr pc) cc pc = .ok (.ifnull v, pc + 3) := by
    unfold Jvm.ClassFile.Decoder.instr
    refine fq_b (fq_u1 (n := 198) h rfl) ?_
    show ((Jvm.ClassFile.Reader.s2 : Jvm.ClassFile.Decoder Int) >>= fun z => pure (Instr.ifnull z)) cc (pc + 1) = _
    refine fq_b (a := v) (q := pc + 3) ?_ rfl
    unfold Jvm.ClassFile.Reader.s2
    rw [← hv]
    exact fq_m (fq_u2 h1 h2)
  have e := fq_of e0
  rw [Nat.add_sub_cancel_left] at e
  exact e
theorem fq3_199 {cc : ByteArray} {pc : Nat} {v : Int} {x y : UInt8} (h : cc.data.toList[pc]? = some (199 : UInt8)) (h1 : cc.data.toList[pc + 1]? = some x) (h2 : cc.data.toList[pc + 1 + 1]? = some y) (hv : Jvm.ClassFile.Reader.signed 16 (x.toNat * 256 + y.toNat) = v) : decode cc pc = .ok (.ifnonnull v, 3) := by
  have e0 : (Jvm.ClassFile.Decoder.instr pc) cc pc = .ok (.ifnonnull v, pc + 3) := by
    unfold Jvm.ClassFile.Decoder.instr
    refine fq_b (fq_u1 (n := 199) h rfl) ?_
    show ((Jvm.ClassFile.Reader.s2 : Jvm.ClassFile.Decoder Int) >>= fun z => pure (Instr.ifnonnull z)) cc (pc + 1) = _
    refine fq_b (a := v) (q := pc + 3) ?_ rfl
    unfold Jvm.ClassFile.Reader.s2
    rw [← hv]
    exact fq_m (fq_u2 h1 h2)
  have e := fq_of e0
  rw [Nat.add_sub_cancel_left] at e
  exact e
end

section
theorem bl {k N : Nat} (h : Nat.ble (k + 1) N = true) : k < N := Nat.le_of_ble_eq_true h
def disj (a b : List Nat) : Bool := a.all (fun i => !(b.contains i))
theorem dj {a b : List Nat} (h : disj a b = true) : ∀ i ∈ a, i ∉ b := by
  intro i hi hb
  have q : (!(b.contains i)) = true := List.all_eq_true.mp (show a.all (fun i => !(b.contains i)) = true from h) i hi
  rw [List.contains_iff_mem.mpr hb] at q
  exact absurd q (by decide)
theorem s1p {x : UInt8} {n : Nat} (hx : x.toNat = n) (hn : n < 128) : Jvm.ClassFile.Reader.signed 8 x.toNat = (n : Int) := by
  rw [hx]
  unfold Jvm.ClassFile.Reader.signed
  rw [if_pos (by omega)]
theorem s2p {x y : UInt8} {n : Nat} (hx : x.toNat * 256 + y.toNat = n) (hn : n < 32768) : Jvm.ClassFile.Reader.signed 16 (x.toNat * 256 + y.toNat) = (n : Int) := by
  rw [hx]
  unfold Jvm.ClassFile.Reader.signed
  rw [if_pos (by omega)]
theorem bip_m2 : (Int8.ofInt (-2)).toInt32 = iZ (-2) := by decide
theorem bip_10 : (Int8.ofInt 10).toInt32 = iZ 10 := by decide
theorem bip_11 : (Int8.ofInt 11).toInt32 = iZ 11 := by decide
theorem bip_118 : (Int8.ofInt 118).toInt32 = iZ 118 := by decide
theorem bip_12 : (Int8.ofInt 12).toInt32 = iZ 12 := by decide
theorem bip_122 : (Int8.ofInt 122).toInt32 = iZ 122 := by decide
theorem bip_13 : (Int8.ofInt 13).toInt32 = iZ 13 := by decide
theorem bip_14 : (Int8.ofInt 14).toInt32 = iZ 14 := by decide
theorem bip_15 : (Int8.ofInt 15).toInt32 = iZ 15 := by decide
theorem bip_16 : (Int8.ofInt 16).toInt32 = iZ 16 := by decide
theorem bip_17 : (Int8.ofInt 17).toInt32 = iZ 17 := by decide
theorem bip_18 : (Int8.ofInt 18).toInt32 = iZ 18 := by decide
theorem bip_19 : (Int8.ofInt 19).toInt32 = iZ 19 := by decide
theorem bip_20 : (Int8.ofInt 20).toInt32 = iZ 20 := by decide
theorem bip_21 : (Int8.ofInt 21).toInt32 = iZ 21 := by decide
theorem bip_22 : (Int8.ofInt 22).toInt32 = iZ 22 := by decide
theorem bip_23 : (Int8.ofInt 23).toInt32 = iZ 23 := by decide
theorem bip_24 : (Int8.ofInt 24).toInt32 = iZ 24 := by decide
theorem bip_25 : (Int8.ofInt 25).toInt32 = iZ 25 := by decide
theorem bip_30 : (Int8.ofInt 30).toInt32 = iZ 30 := by decide
theorem bip_32 : (Int8.ofInt 32).toInt32 = iZ 32 := by decide
theorem bip_40 : (Int8.ofInt 40).toInt32 = iZ 40 := by decide
theorem bip_46 : (Int8.ofInt 46).toInt32 = iZ 46 := by decide
theorem bip_48 : (Int8.ofInt 48).toInt32 = iZ 48 := by decide
theorem bip_57 : (Int8.ofInt 57).toInt32 = iZ 57 := by decide
theorem bip_59 : (Int8.ofInt 59).toInt32 = iZ 59 := by decide
theorem bip_6 : (Int8.ofInt 6).toInt32 = iZ 6 := by decide
theorem bip_60 : (Int8.ofInt 60).toInt32 = iZ 60 := by decide
theorem bip_61 : (Int8.ofInt 61).toInt32 = iZ 61 := by decide
theorem bip_62 : (Int8.ofInt 62).toInt32 = iZ 62 := by decide
theorem bip_63 : (Int8.ofInt 63).toInt32 = iZ 63 := by decide
theorem bip_7 : (Int8.ofInt 7).toInt32 = iZ 7 := by decide
theorem bip_78 : (Int8.ofInt 78).toInt32 = iZ 78 := by decide
theorem bip_8 : (Int8.ofInt 8).toInt32 = iZ 8 := by decide
theorem bip_9 : (Int8.ofInt 9).toInt32 = iZ 9 := by decide
theorem bip_97 : (Int8.ofInt 97).toInt32 = iZ 97 := by decide
theorem bip_99 : (Int8.ofInt 99).toInt32 = iZ 99 := by decide
theorem sip_11093 : (Int16.ofInt 11093).toInt32 = iZ 11093 := by decide
theorem sip_128 : (Int16.ofInt 128).toInt32 = iZ 128 := by decide
theorem sip_14436 : (Int16.ofInt 14436).toInt32 = iZ 14436 := by decide
theorem sip_1900 : (Int16.ofInt 1900).toInt32 = iZ 1900 := by decide
theorem sip_200 : (Int16.ofInt 200).toInt32 = iZ 200 := by decide
theorem sip_255 : (Int16.ofInt 255).toInt32 = iZ 255 := by decide
theorem sip_2766 : (Int16.ofInt 2766).toInt32 = iZ 2766 := by decide
theorem sip_2893 : (Int16.ofInt 2893).toInt32 = iZ 2893 := by decide
theorem sip_300 : (Int16.ofInt 300).toInt32 = iZ 300 := by decide
theorem sip_3560 : (Int16.ofInt 3560).toInt32 = iZ 3560 := by decide
theorem sip_3561 : (Int16.ofInt 3561).toInt32 = iZ 3561 := by decide
theorem sip_3562 : (Int16.ofInt 3562).toInt32 = iZ 3562 := by decide
theorem sip_3565 : (Int16.ofInt 3565).toInt32 = iZ 3565 := by decide
theorem sip_3570 : (Int16.ofInt 3570).toInt32 = iZ 3570 := by decide
theorem sip_3606 : (Int16.ofInt 3606).toInt32 = iZ 3606 := by decide
theorem sip_3678 : (Int16.ofInt 3678).toInt32 = iZ 3678 := by decide
theorem sip_400 : (Int16.ofInt 400).toInt32 = iZ 400 := by decide
theorem sip_401 : (Int16.ofInt 401).toInt32 = iZ 401 := by decide
theorem sip_4080 : (Int16.ofInt 4080).toInt32 = iZ 4080 := by decide
theorem sip_420 : (Int16.ofInt 420).toInt32 = iZ 420 := by decide
theorem sip_4450 : (Int16.ofInt 4450).toInt32 = iZ 4450 := by decide
theorem sip_460 : (Int16.ofInt 460).toInt32 = iZ 460 := by decide
theorem sip_500 : (Int16.ofInt 500).toInt32 = iZ 500 := by decide
theorem sip_520 : (Int16.ofInt 520).toInt32 = iZ 520 := by decide
theorem sip_880 : (Int16.ofInt 880).toInt32 = iZ 880 := by decide
theorem sip_884 : (Int16.ofInt 884).toInt32 = iZ 884 := by decide
theorem sip_890 : (Int16.ofInt 890).toInt32 = iZ 890 := by decide
theorem sip_900 : (Int16.ofInt 900).toInt32 = iZ 900 := by decide
theorem sip_9999 : (Int16.ofInt 9999).toInt32 = iZ 9999 := by decide
theorem wn_m1 : -2147483648 ≤ ((-1) : Int) ∧ ((-1) : Int) < 2147483648 := by decide
theorem wn_m2 : -2147483648 ≤ ((-2) : Int) ∧ ((-2) : Int) < 2147483648 := by decide
theorem wn_0 : -2147483648 ≤ (0 : Int) ∧ (0 : Int) < 2147483648 := by decide
theorem wn_1 : -2147483648 ≤ (1 : Int) ∧ (1 : Int) < 2147483648 := by decide
theorem wn_10 : -2147483648 ≤ (10 : Int) ∧ (10 : Int) < 2147483648 := by decide
theorem wn_1000000 : -2147483648 ≤ (1000000 : Int) ∧ (1000000 : Int) < 2147483648 := by decide
theorem wn_12 : -2147483648 ≤ (12 : Int) ∧ (12 : Int) < 2147483648 := by decide
theorem wn_122 : -2147483648 ≤ (122 : Int) ∧ (122 : Int) < 2147483648 := by decide
theorem wn_125 : -2147483648 ≤ (125 : Int) ∧ (125 : Int) < 2147483648 := by decide
theorem wn_128 : -2147483648 ≤ (128 : Int) ∧ (128 : Int) < 2147483648 := by decide
theorem wn_13 : -2147483648 ≤ (13 : Int) ∧ (13 : Int) < 2147483648 := by decide
theorem wn_14 : -2147483648 ≤ (14 : Int) ∧ (14 : Int) < 2147483648 := by decide
theorem wn_15 : -2147483648 ≤ (15 : Int) ∧ (15 : Int) < 2147483648 := by decide
theorem wn_16 : -2147483648 ≤ (16 : Int) ∧ (16 : Int) < 2147483648 := by decide
theorem wn_17 : -2147483648 ≤ (17 : Int) ∧ (17 : Int) < 2147483648 := by decide
theorem wn_18 : -2147483648 ≤ (18 : Int) ∧ (18 : Int) < 2147483648 := by decide
theorem wn_19 : -2147483648 ≤ (19 : Int) ∧ (19 : Int) < 2147483648 := by decide
theorem wn_1900 : -2147483648 ≤ (1900 : Int) ∧ (1900 : Int) < 2147483648 := by decide
theorem wn_2 : -2147483648 ≤ (2 : Int) ∧ (2 : Int) < 2147483648 := by decide
theorem wn_20 : -2147483648 ≤ (20 : Int) ∧ (20 : Int) < 2147483648 := by decide
theorem wn_200 : -2147483648 ≤ (200 : Int) ∧ (200 : Int) < 2147483648 := by decide
theorem wn_21 : -2147483648 ≤ (21 : Int) ∧ (21 : Int) < 2147483648 := by decide
theorem wn_22 : -2147483648 ≤ (22 : Int) ∧ (22 : Int) < 2147483648 := by decide
theorem wn_23 : -2147483648 ≤ (23 : Int) ∧ (23 : Int) < 2147483648 := by decide
theorem wn_24 : -2147483648 ≤ (24 : Int) ∧ (24 : Int) < 2147483648 := by decide
theorem wn_25 : -2147483648 ≤ (25 : Int) ∧ (25 : Int) < 2147483648 := by decide
theorem wn_2766 : -2147483648 ≤ (2766 : Int) ∧ (2766 : Int) < 2147483648 := by decide
theorem wn_3 : -2147483648 ≤ (3 : Int) ∧ (3 : Int) < 2147483648 := by decide
theorem wn_30 : -2147483648 ≤ (30 : Int) ∧ (30 : Int) < 2147483648 := by decide
theorem wn_300 : -2147483648 ≤ (300 : Int) ∧ (300 : Int) < 2147483648 := by decide
theorem wn_32 : -2147483648 ≤ (32 : Int) ∧ (32 : Int) < 2147483648 := by decide
theorem wn_4 : -2147483648 ≤ (4 : Int) ∧ (4 : Int) < 2147483648 := by decide
theorem wn_400 : -2147483648 ≤ (400 : Int) ∧ (400 : Int) < 2147483648 := by decide
theorem wn_460 : -2147483648 ≤ (460 : Int) ∧ (460 : Int) < 2147483648 := by decide
theorem wn_48 : -2147483648 ≤ (48 : Int) ∧ (48 : Int) < 2147483648 := by decide
theorem wn_5 : -2147483648 ≤ (5 : Int) ∧ (5 : Int) < 2147483648 := by decide
theorem wn_500 : -2147483648 ≤ (500 : Int) ∧ (500 : Int) < 2147483648 := by decide
theorem wn_520 : -2147483648 ≤ (520 : Int) ∧ (520 : Int) < 2147483648 := by decide
theorem wn_57 : -2147483648 ≤ (57 : Int) ∧ (57 : Int) < 2147483648 := by decide
theorem wn_59 : -2147483648 ≤ (59 : Int) ∧ (59 : Int) < 2147483648 := by decide
theorem wn_6 : -2147483648 ≤ (6 : Int) ∧ (6 : Int) < 2147483648 := by decide
theorem wn_60 : -2147483648 ≤ (60 : Int) ∧ (60 : Int) < 2147483648 := by decide
theorem wn_61 : -2147483648 ≤ (61 : Int) ∧ (61 : Int) < 2147483648 := by decide
theorem wn_62 : -2147483648 ≤ (62 : Int) ∧ (62 : Int) < 2147483648 := by decide
theorem wn_7 : -2147483648 ≤ (7 : Int) ∧ (7 : Int) < 2147483648 := by decide
theorem wn_8 : -2147483648 ≤ (8 : Int) ∧ (8 : Int) < 2147483648 := by decide
theorem wn_880 : -2147483648 ≤ (880 : Int) ∧ (880 : Int) < 2147483648 := by decide
theorem wn_884 : -2147483648 ≤ (884 : Int) ∧ (884 : Int) < 2147483648 := by decide
theorem wn_890 : -2147483648 ≤ (890 : Int) ∧ (890 : Int) < 2147483648 := by decide
theorem wn_9 : -2147483648 ≤ (9 : Int) ∧ (9 : Int) < 2147483648 := by decide
theorem wn_900 : -2147483648 ≤ (900 : Int) ∧ (900 : Int) < 2147483648 := by decide
theorem wn_97 : -2147483648 ≤ (97 : Int) ∧ (97 : Int) < 2147483648 := by decide
theorem wn_99 : -2147483648 ≤ (99 : Int) ∧ (99 : Int) < 2147483648 := by decide
theorem wn_9999 : -2147483648 ≤ (9999 : Int) ∧ (9999 : Int) < 2147483648 := by decide
end
