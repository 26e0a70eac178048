section
theorem qk_X12_399 : Cond.constantLong RX12 399 (9999) ∈ gw := tbt (tb9 (List.mem_of_getElem? (i := 4) rfl)) rfl
theorem qc_X12_lives : Cond.code yX12_lives cX12_lives 4 none ∈ gw := tbt (tb9 (List.mem_of_getElem? (i := 8) rfl)) rfl
theorem qi_yX12_lives : Cond.instanceMethod yX12_lives ∈ gw := tbt (tb9 (List.mem_of_getElem? (i := 7) rfl)) rfl
theorem qs_X12_lives : Cond.selects (yX12_lives).cls yX12_lives yX12_lives ∈ gw := tb0 (List.mem_of_getElem? (i := 99) rfl) rfl
theorem ci_X12_lives : CIv yX12_lives cX12_lives 4 none 1 := ⟨qc_X12_lives, qi_yX12_lives, qs_X12_lives, qz_X12, by decide +kernel⟩
theorem qm_X12_401 : Cond.methodLink RX12 401 yX12_lives ∈ gw := tbt (tb9 (List.mem_of_getElem? (i := 5) rfl)) rfl
theorem qf_X12_404 : Cond.fieldLink RX12 404 "SlowWorldsModel" "isTold" "Z" ∈ gw := tbt (tb6 (List.mem_of_getElem? (i := 78) rfl)) rfl
theorem qf_X12_68 : Cond.fieldLink RX12 68 "SlowWorldsModel" "told0" "[I" ∈ gw := tbt (tb6 (List.mem_of_getElem? (i := 77) rfl)) rfl
def fb_X12_live_0 : List UInt8 := [0x1b, 0x85, 0x09, 0x14, 0x01, 0x8f, 0xb8, 0x01, 0x27, 0x9a, 0x00, 0x09, 0x2a, 0x04, 0xb6, 0x00, 0x51, 0xac, 0x2a, 0xb4, 0x00, 0x07, 0x08, 0x2e, 0x02, 0xa0, 0x00, 0x0a, 0x2a, 0x10, 0x06, 0xb6, 0x00, 0x51, 0xac, 0x2a, 0x1b, 0xb6, 0x01, 0x91, 0x03, 0x3d, 0x1c, 0x08, 0xa2, 0x00, 0x15, 0x2a, 0xb4, 0x00, 0x44, 0x1c, 0x2a, 0xb4, 0x00, 0x41, 0x1c, 0x2e, 0x4f, 0x84, 0x02, 0x01, 0xa7, 0xff]
theorem fl_X12_live_0 {p j : Nat} {b : UInt8} (e : p = 0 + j) (h : fb_X12_live_0[j]? = some b) : cX12_live.data.toList[p]? = some b := fq_l (n := 64) (show (cX12_live.data.toList.drop 0).take 64 = fb_X12_live_0 by decide +kernel) e h
theorem dX12_live_0 : decode cX12_live 0 = .ok (.iload_n 1, 1) := fq1_27 (fl_X12_live_0 (j := 0) rfl rfl)
theorem dX12_live_1 : decode cX12_live 1 = .ok (.i2l, 1) := fq1_133 (fl_X12_live_0 (j := 1) rfl rfl)
theorem dX12_live_2 : decode cX12_live 2 = .ok (.lconst 0, 1) := fq1_9 (fl_X12_live_0 (j := 2) rfl rfl)
theorem dX12_live_3 : decode cX12_live 3 = .ok (.ldc2_w 399, 3) := fq3_20 (fl_X12_live_0 (j := 3) rfl rfl) (fl_X12_live_0 (j := 4) rfl rfl) (fl_X12_live_0 (j := 5) rfl rfl) rfl
theorem dX12_live_6 : decode cX12_live 6 = .ok (.invokestatic 295, 3) := fq3_184 (fl_X12_live_0 (j := 6) rfl rfl) (fl_X12_live_0 (j := 7) rfl rfl) (fl_X12_live_0 (j := 8) rfl rfl) rfl
theorem dX12_live_9 : decode cX12_live 9 = .ok (.ifCond .ne 9, 3) := fq3_154 (fl_X12_live_0 (j := 9) rfl rfl) (fl_X12_live_0 (j := 10) rfl rfl) (fl_X12_live_0 (j := 11) rfl rfl) (s2p rfl (bl rfl))
theorem dX12_live_12 : decode cX12_live 12 = .ok (.aload_n 0, 1) := fq1_42 (fl_X12_live_0 (j := 12) rfl rfl)
theorem dX12_live_13 : decode cX12_live 13 = .ok (.iconst 1, 1) := fq1_4 (fl_X12_live_0 (j := 13) rfl rfl)
theorem dX12_live_14 : decode cX12_live 14 = .ok (.invokevirtual 81, 3) := fq3_182 (fl_X12_live_0 (j := 14) rfl rfl) (fl_X12_live_0 (j := 15) rfl rfl) (fl_X12_live_0 (j := 16) rfl rfl) rfl
theorem dX12_live_17 : decode cX12_live 17 = .ok (.ireturn, 1) := fq1_172 (fl_X12_live_0 (j := 17) rfl rfl)
theorem dX12_live_18 : decode cX12_live 18 = .ok (.aload_n 0, 1) := fq1_42 (fl_X12_live_0 (j := 18) rfl rfl)
theorem dX12_live_19 : decode cX12_live 19 = .ok (.getfield 7, 3) := fq3_180 (fl_X12_live_0 (j := 19) rfl rfl) (fl_X12_live_0 (j := 20) rfl rfl) (fl_X12_live_0 (j := 21) rfl rfl) rfl
theorem dX12_live_22 : decode cX12_live 22 = .ok (.iconst 5, 1) := fq1_8 (fl_X12_live_0 (j := 22) rfl rfl)
theorem dX12_live_23 : decode cX12_live 23 = .ok (.iaload, 1) := fq1_46 (fl_X12_live_0 (j := 23) rfl rfl)
theorem dX12_live_24 : decode cX12_live 24 = .ok (.iconst (-1), 1) := fq1_2 (fl_X12_live_0 (j := 24) rfl rfl)
theorem dX12_live_25 : decode cX12_live 25 = .ok (.if_icmp .ne 10, 3) := fq3_160 (fl_X12_live_0 (j := 25) rfl rfl) (fl_X12_live_0 (j := 26) rfl rfl) (fl_X12_live_0 (j := 27) rfl rfl) (s2p rfl (bl rfl))
theorem dX12_live_28 : decode cX12_live 28 = .ok (.aload_n 0, 1) := fq1_42 (fl_X12_live_0 (j := 28) rfl rfl)
theorem dX12_live_29 : decode cX12_live 29 = .ok (.bipush 6, 2) := fq2_16 (fl_X12_live_0 (j := 29) rfl rfl) (fl_X12_live_0 (j := 30) rfl rfl) (s1p rfl (bl rfl))
theorem dX12_live_31 : decode cX12_live 31 = .ok (.invokevirtual 81, 3) := fq3_182 (fl_X12_live_0 (j := 31) rfl rfl) (fl_X12_live_0 (j := 32) rfl rfl) (fl_X12_live_0 (j := 33) rfl rfl) rfl
theorem dX12_live_34 : decode cX12_live 34 = .ok (.ireturn, 1) := fq1_172 (fl_X12_live_0 (j := 34) rfl rfl)
theorem dX12_live_35 : decode cX12_live 35 = .ok (.aload_n 0, 1) := fq1_42 (fl_X12_live_0 (j := 35) rfl rfl)
theorem dX12_live_36 : decode cX12_live 36 = .ok (.iload_n 1, 1) := fq1_27 (fl_X12_live_0 (j := 36) rfl rfl)
theorem dX12_live_37 : decode cX12_live 37 = .ok (.invokevirtual 401, 3) := fq3_182 (fl_X12_live_0 (j := 37) rfl rfl) (fl_X12_live_0 (j := 38) rfl rfl) (fl_X12_live_0 (j := 39) rfl rfl) rfl
theorem dX12_live_40 : decode cX12_live 40 = .ok (.iconst 0, 1) := fq1_3 (fl_X12_live_0 (j := 40) rfl rfl)
theorem dX12_live_41 : decode cX12_live 41 = .ok (.istore_n 2, 1) := fq1_61 (fl_X12_live_0 (j := 41) rfl rfl)
theorem dX12_live_42 : decode cX12_live 42 = .ok (.iload_n 2, 1) := fq1_28 (fl_X12_live_0 (j := 42) rfl rfl)
theorem dX12_live_43 : decode cX12_live 43 = .ok (.iconst 5, 1) := fq1_8 (fl_X12_live_0 (j := 43) rfl rfl)
theorem dX12_live_44 : decode cX12_live 44 = .ok (.if_icmp .ge 21, 3) := fq3_162 (fl_X12_live_0 (j := 44) rfl rfl) (fl_X12_live_0 (j := 45) rfl rfl) (fl_X12_live_0 (j := 46) rfl rfl) (s2p rfl (bl rfl))
theorem dX12_live_47 : decode cX12_live 47 = .ok (.aload_n 0, 1) := fq1_42 (fl_X12_live_0 (j := 47) rfl rfl)
theorem dX12_live_48 : decode cX12_live 48 = .ok (.getfield 68, 3) := fq3_180 (fl_X12_live_0 (j := 48) rfl rfl) (fl_X12_live_0 (j := 49) rfl rfl) (fl_X12_live_0 (j := 50) rfl rfl) rfl
theorem dX12_live_51 : decode cX12_live 51 = .ok (.iload_n 2, 1) := fq1_28 (fl_X12_live_0 (j := 51) rfl rfl)
theorem dX12_live_52 : decode cX12_live 52 = .ok (.aload_n 0, 1) := fq1_42 (fl_X12_live_0 (j := 52) rfl rfl)
theorem dX12_live_53 : decode cX12_live 53 = .ok (.getfield 65, 3) := fq3_180 (fl_X12_live_0 (j := 53) rfl rfl) (fl_X12_live_0 (j := 54) rfl rfl) (fl_X12_live_0 (j := 55) rfl rfl) rfl
theorem dX12_live_56 : decode cX12_live 56 = .ok (.iload_n 2, 1) := fq1_28 (fl_X12_live_0 (j := 56) rfl rfl)
theorem dX12_live_57 : decode cX12_live 57 = .ok (.iaload, 1) := fq1_46 (fl_X12_live_0 (j := 57) rfl rfl)
theorem dX12_live_58 : decode cX12_live 58 = .ok (.iastore, 1) := fq1_79 (fl_X12_live_0 (j := 58) rfl rfl)
theorem dX12_live_59 : decode cX12_live 59 = .ok (.iinc 2 1, 3) := fq3_132 (fl_X12_live_0 (j := 59) rfl rfl) (fl_X12_live_0 (j := 60) rfl rfl) (fl_X12_live_0 (j := 61) rfl rfl) rfl (s1p rfl (bl rfl))
def fb_X12_live_1 : List UInt8 := [0xec, 0x2a, 0x04, 0xb5, 0x01, 0x94, 0x2a, 0x2a, 0xb4, 0x01, 0x83, 0xb6, 0x00, 0x55, 0xac]
theorem fl_X12_live_1 {p j : Nat} {b : UInt8} (e : p = 64 + j) (h : fb_X12_live_1[j]? = some b) : cX12_live.data.toList[p]? = some b := fq_l (n := 64) (show (cX12_live.data.toList.drop 64).take 64 = fb_X12_live_1 by decide +kernel) e h
theorem dX12_live_62 : decode cX12_live 62 = .ok (.goto (-20), 3) := fq3_167 (fl_X12_live_0 (j := 62) rfl rfl) (fl_X12_live_0 (j := 63) rfl rfl) (fl_X12_live_1 (j := 0) rfl rfl) (by decide)
theorem dX12_live_65 : decode cX12_live 65 = .ok (.aload_n 0, 1) := fq1_42 (fl_X12_live_1 (j := 1) rfl rfl)
theorem dX12_live_66 : decode cX12_live 66 = .ok (.iconst 1, 1) := fq1_4 (fl_X12_live_1 (j := 2) rfl rfl)
theorem dX12_live_67 : decode cX12_live 67 = .ok (.putfield 404, 3) := fq3_181 (fl_X12_live_1 (j := 3) rfl rfl) (fl_X12_live_1 (j := 4) rfl rfl) (fl_X12_live_1 (j := 5) rfl rfl) rfl
theorem dX12_live_70 : decode cX12_live 70 = .ok (.aload_n 0, 1) := fq1_42 (fl_X12_live_1 (j := 6) rfl rfl)
theorem dX12_live_71 : decode cX12_live 71 = .ok (.aload_n 0, 1) := fq1_42 (fl_X12_live_1 (j := 7) rfl rfl)
theorem dX12_live_72 : decode cX12_live 72 = .ok (.getfield 387, 3) := fq3_180 (fl_X12_live_1 (j := 8) rfl rfl) (fl_X12_live_1 (j := 9) rfl rfl) (fl_X12_live_1 (j := 10) rfl rfl) rfl
theorem dX12_live_75 : decode cX12_live 75 = .ok (.invokevirtual 85, 3) := fq3_182 (fl_X12_live_1 (j := 11) rfl rfl) (fl_X12_live_1 (j := 12) rfl rfl) (fl_X12_live_1 (j := 13) rfl rfl) rfl
theorem dX12_live_78 : decode cX12_live 78 = .ok (.ireturn, 1) := fq1_172 (fl_X12_live_1 (j := 14) rfl rfl)
def fb_X12_lived_0 : List UInt8 := [0x1b, 0x9b, 0x00, 0x08, 0x1b, 0x07, 0xa4, 0x00, 0x0b, 0x2a, 0x04, 0xb6, 0x00, 0x51, 0xa7, 0x00, 0x1d, 0x2a, 0xb4, 0x01, 0x94, 0x99, 0x00, 0x10, 0x2a, 0x2a, 0xb4, 0x00, 0x44, 0x1b, 0x2e, 0xb6, 0x00, 0x55, 0xa7, 0x00, 0x09, 0x2a, 0x10, 0x06, 0xb6, 0x00, 0x51, 0xac]
theorem fl_X12_lived_0 {p j : Nat} {b : UInt8} (e : p = 0 + j) (h : fb_X12_lived_0[j]? = some b) : cX12_lived.data.toList[p]? = some b := fq_l (n := 64) (show (cX12_lived.data.toList.drop 0).take 64 = fb_X12_lived_0 by decide +kernel) e h
theorem dX12_lived_0 : decode cX12_lived 0 = .ok (.iload_n 1, 1) := fq1_27 (fl_X12_lived_0 (j := 0) rfl rfl)
theorem dX12_lived_1 : decode cX12_lived 1 = .ok (.ifCond .lt 8, 3) := fq3_155 (fl_X12_lived_0 (j := 1) rfl rfl) (fl_X12_lived_0 (j := 2) rfl rfl) (fl_X12_lived_0 (j := 3) rfl rfl) (s2p rfl (bl rfl))
theorem dX12_lived_4 : decode cX12_lived 4 = .ok (.iload_n 1, 1) := fq1_27 (fl_X12_lived_0 (j := 4) rfl rfl)
theorem dX12_lived_5 : decode cX12_lived 5 = .ok (.iconst 4, 1) := fq1_7 (fl_X12_lived_0 (j := 5) rfl rfl)
theorem dX12_lived_6 : decode cX12_lived 6 = .ok (.if_icmp .le 11, 3) := fq3_164 (fl_X12_lived_0 (j := 6) rfl rfl) (fl_X12_lived_0 (j := 7) rfl rfl) (fl_X12_lived_0 (j := 8) rfl rfl) (s2p rfl (bl rfl))
theorem dX12_lived_9 : decode cX12_lived 9 = .ok (.aload_n 0, 1) := fq1_42 (fl_X12_lived_0 (j := 9) rfl rfl)
theorem dX12_lived_10 : decode cX12_lived 10 = .ok (.iconst 1, 1) := fq1_4 (fl_X12_lived_0 (j := 10) rfl rfl)
theorem dX12_lived_11 : decode cX12_lived 11 = .ok (.invokevirtual 81, 3) := fq3_182 (fl_X12_lived_0 (j := 11) rfl rfl) (fl_X12_lived_0 (j := 12) rfl rfl) (fl_X12_lived_0 (j := 13) rfl rfl) rfl
theorem dX12_lived_14 : decode cX12_lived 14 = .ok (.goto 29, 3) := fq3_167 (fl_X12_lived_0 (j := 14) rfl rfl) (fl_X12_lived_0 (j := 15) rfl rfl) (fl_X12_lived_0 (j := 16) rfl rfl) (s2p rfl (bl rfl))
theorem dX12_lived_17 : decode cX12_lived 17 = .ok (.aload_n 0, 1) := fq1_42 (fl_X12_lived_0 (j := 17) rfl rfl)
theorem dX12_lived_18 : decode cX12_lived 18 = .ok (.getfield 404, 3) := fq3_180 (fl_X12_lived_0 (j := 18) rfl rfl) (fl_X12_lived_0 (j := 19) rfl rfl) (fl_X12_lived_0 (j := 20) rfl rfl) rfl
theorem dX12_lived_21 : decode cX12_lived 21 = .ok (.ifCond .eq 16, 3) := fq3_153 (fl_X12_lived_0 (j := 21) rfl rfl) (fl_X12_lived_0 (j := 22) rfl rfl) (fl_X12_lived_0 (j := 23) rfl rfl) (s2p rfl (bl rfl))
theorem dX12_lived_24 : decode cX12_lived 24 = .ok (.aload_n 0, 1) := fq1_42 (fl_X12_lived_0 (j := 24) rfl rfl)
theorem dX12_lived_25 : decode cX12_lived 25 = .ok (.aload_n 0, 1) := fq1_42 (fl_X12_lived_0 (j := 25) rfl rfl)
theorem dX12_lived_26 : decode cX12_lived 26 = .ok (.getfield 68, 3) := fq3_180 (fl_X12_lived_0 (j := 26) rfl rfl) (fl_X12_lived_0 (j := 27) rfl rfl) (fl_X12_lived_0 (j := 28) rfl rfl) rfl
theorem dX12_lived_29 : decode cX12_lived 29 = .ok (.iload_n 1, 1) := fq1_27 (fl_X12_lived_0 (j := 29) rfl rfl)
theorem dX12_lived_30 : decode cX12_lived 30 = .ok (.iaload, 1) := fq1_46 (fl_X12_lived_0 (j := 30) rfl rfl)
theorem dX12_lived_31 : decode cX12_lived 31 = .ok (.invokevirtual 85, 3) := fq3_182 (fl_X12_lived_0 (j := 31) rfl rfl) (fl_X12_lived_0 (j := 32) rfl rfl) (fl_X12_lived_0 (j := 33) rfl rfl) rfl
theorem dX12_lived_34 : decode cX12_lived 34 = .ok (.goto 9, 3) := fq3_167 (fl_X12_lived_0 (j := 34) rfl rfl) (fl_X12_lived_0 (j := 35) rfl rfl) (fl_X12_lived_0 (j := 36) rfl rfl) (s2p rfl (bl rfl))
theorem dX12_lived_37 : decode cX12_lived 37 = .ok (.aload_n 0, 1) := fq1_42 (fl_X12_lived_0 (j := 37) rfl rfl)
theorem dX12_lived_38 : decode cX12_lived 38 = .ok (.bipush 6, 2) := fq2_16 (fl_X12_lived_0 (j := 38) rfl rfl) (fl_X12_lived_0 (j := 39) rfl rfl) (s1p rfl (bl rfl))
theorem dX12_lived_40 : decode cX12_lived 40 = .ok (.invokevirtual 81, 3) := fq3_182 (fl_X12_lived_0 (j := 40) rfl rfl) (fl_X12_lived_0 (j := 41) rfl rfl) (fl_X12_lived_0 (j := 42) rfl rfl) rfl
theorem dX12_lived_43 : decode cX12_lived 43 = .ok (.ireturn, 1) := fq1_172 (fl_X12_lived_0 (j := 43) rfl rfl)
end

section
set_option maxHeartbeats 4000000 in
set_option maxRecDepth 100000 in
theorem q_live (l : Launch) (D : va_G) (k : Nat → ClassId) (hm : Nat) (Ma : Nat) (Mn : Nat) (Ms : Nat) (My : Nat) (Mt : Nat) (Mp : Nat) (Mx : Nat) (Mo : Nat) (Mk : Nat) (Ml : Nat) (Mb : Nat) (Mh : Nat) (Mc : Nat) (Mz : Nat) (Mr : Nat) (Mq : Nat) (Mst : Int) (Mtd : Int) (Msz : Int) (Mtk : Int) (Mfr : Int) (Men : Int) (Mva : Int) (Mfk : Int) (Mfp : Int) (Mfs : Int) (Mse : Int) (Mlt : Int) (Mdp : Int) (Mct : Int) (Mdr : Int) (Mrs : Int) (Mit : Int) (Mmk : Int) (Mtp : Int64) (Mbt : Int64) (Af : Nat → Int32) (Kf : Nat → Int32) (Lf : Nat → Int32) (Bf : Nat → Int32) (Hf : Nat → Int32) (Zf : Nat → Int32) (Rf : Nat → Int32) (Qf : Nat → Int32) (x1 : Int) (hM : M0 Af) (rgH : rgI Hf 0 1000000 120) (hdr : 0 ≤ Mdr ∧ Mdr ≤ 65535) (hit : Mit = 0 ∨ Mit = 1) (h9x1 : -2147483648 ≤ x1 ∧ x1 < 2147483648) : WD (σ := ((Int × Int × Int × Int × Int) × (Int64) × ((Nat → Int32) × (Nat → Int32) × (Nat → Int32) × (Nat → Int32) × (Nat → Int32) × (Nat → Int32) × (Nat → Int32) × (Nat → Int32)) × (Unit))) l yX12_live cX12_live 3 (some .int) 10 0 0 D k [.ref hm, .int (iZ x1)] [(hm, .inr (12, [.ref Ma, .ref Mn, .int (iZ Mst), .long Mtp, .long Mbt, .ref Ms, .ref My, .ref Mt, .ref Mp, .ref Mx, .int (iZ Mtd), .int (iZ Msz), .int (iZ Mtk), .int (iZ Mfr), .int (iZ Men), .int (iZ Mva), .int (iZ Mfk), .int (iZ Mfp), .int (iZ Mfs), .int (iZ Mse), .int (iZ Mlt), .ref Mo, .int (iZ Mdp), .int (iZ Mct), .ref Mk, .ref Ml, .ref Mb, .ref Mh, .ref Mc, .int (iZ Mdr), .int (iZ Mrs), .ref Mz, .ref Mr, .ref Mq, .int (iZ Mit), .int (iZ Mmk)])), (Ma, .inl (k 1, 5340, .inl Af)), (Mk, .inl (k 1, 6, .inl Kf)), (Ml, .inl (k 1, 6, .inl Lf)), (Mb, .inl (k 1, 6, .inl Bf)), (Mh, .inl (k 1, 120, .inl Hf)), (Mz, .inl (k 1, 80, .inl Zf)), (Mr, .inl (k 1, 5, .inl Rf)), (Mq, .inl (k 1, 5, .inl Qf))] (fun u => some (.int (iZ u.1.1))) (fun u => (M0 u.2.2.1.2.1) ∧ (FR u.2.2.1.2.1 Af) ∧ (0 ≤ u.1.2.2.2.1 ∧ u.1.2.2.2.1 ≤ 65535) ∧ (rgI u.2.2.1.2.2.2.2.2.1 0 1000000 120) ∧ (u.1.2.2.1 = 0 ∨ u.1.2.2.1 = 1)) (fun u => [(hm, .inr (12, [.ref Ma, .ref Mn, .int (iZ u.1.2.1), .long Mtp, .long Mbt, .ref Ms, .ref My, .ref Mt, .ref Mp, .ref Mx, .int (iZ Mtd), .int (iZ Msz), .int (iZ Mtk), .int (iZ Mfr), .int (iZ Men), .int (iZ Mva), .int (iZ Mfk), .int (iZ Mfp), .int (iZ Mfs), .int (iZ Mse), .int (iZ Mlt), .ref Mo, .int (iZ Mdp), .int (iZ Mct), .ref Mk, .ref Ml, .ref Mb, .ref Mh, .ref Mc, .int (iZ u.1.2.2.2.1), .int (iZ u.1.2.2.2.2), .ref Mz, .ref Mr, .ref Mq, .int (iZ u.1.2.2.1), .int (iZ Mmk)])), (Ma, .inl (k 1, 5340, .inl u.2.2.1.2.1)), (Mk, .inl (k 1, 6, .inl u.2.2.1.2.2.1)), (Ml, .inl (k 1, 6, .inl u.2.2.1.2.2.2.1)), (Mb, .inl (k 1, 6, .inl u.2.2.1.2.2.2.2.1)), (Mh, .inl (k 1, 120, .inl u.2.2.1.2.2.2.2.2.1)), (Mz, .inl (k 1, 80, .inl u.2.2.1.2.2.2.2.2.2.1)), (Mr, .inl (k 1, 5, .inl u.2.2.1.2.2.2.2.2.2.2)), (Mq, .inl (k 1, 5, .inl u.2.2.1.1))]) := by
  refine MW (by decide) (Nat.le_of_ble_eq_true rfl) (fun p e s m below meth c ls A hx hb hml hr hlocks hin hts hown hKK hP hD hS hA hl => ?_)
  have hK := hKK.1
  have hl : lv_has ls 3 [(0, .ref hm), (1, .int (iZ x1))] := hl
  obtain ⟨m0, m1, m3, m4, m5, mF, mO, mS⟩ := id hM
  refine lv_iload_n hx hb dX12_live_0 rfl (lv_at hl 1 rfl) ?_
  refine lv_i2l (v := (iZ x1).toInt64) hx hb dX12_live_1 rfl ?_
  refine lv_lconst (v := 0) hx hb dX12_live_2 rfl ?_
  refine lv_ldc2 (own := RX12) (v := 9999) hx hb hown (hts _ qk_X12_399) dX12_live_3 ?_
  refine CPS (As := [.long ((iZ x1).toInt64), .long 0, .long 9999]) (rest := []) hx hb hml hown hts hKK (hP.sub (ws' := []) [] rfl) (m_isFrom l D k ((iZ x1).toInt64) 0 9999) ci_X12_isFrom qm_X12_295 ⟨Nat.le_of_ble_eq_true rfl, Nat.le_of_ble_eq_true rfl⟩ ⟨Nat.le_of_ble_eq_true rfl, Nat.le_of_ble_eq_true rfl⟩ rfl hl.1 rfl (Nat.le_of_ble_eq_true rfl) dX12_live_6 (fun z_1 hz_1 => ?_)
  have tt_2_z_1 := tI64 (z := x1) ⟨by omega, by omega⟩
  have tt_3_z_1 := show (0 : Int64).toInt = 0 from (by decide)
  have tt_4_z_1 := show (9999 : Int64).toInt = 9999 from (by decide)
  rcases hz_1 with ⟨qz_1, hz_1⟩ | ⟨qz_1, hz_1⟩
  ·
    subst qz_1
    refine lv_if_ne (tgt := 18) hx hb dX12_live_9 rfl (fun _ => ?_) (fun c => absurd c (by decide))
    refine lv_aload_n hx hb dX12_live_18 rfl (lv_at hl 0 rfl) ?_
    refine va_get (D := D) (ci := 12) (v := .ref Ma) (C := RX12) (T := TX12) (N := 36) hx hb hts iX12 hown hK hP 0 rfl rfl 0 (bl rfl) (hts _ qf_X12_7) (fun _ h => h) rfl dX12_live_19 ?_
    refine lv_iconst (v := iZ 5) hx hb dX12_live_22 rfl ?_
    refine va_iald hx hb hK hP 1 1 rfl rfl (zin (e := 5) (n := 5340) ⟨by omega, by omega⟩ (bl rfl)) dX12_live_23 ?_
    refine lv_topi (fun x_6 ex_6 => ?_)
    obtain rfl : x_6 = iZ (gz Af 5) := ex_6.trans (gz_eq ⟨by omega, by omega⟩)
    have h_7 := gz_rg Af 5
    refine lv_iconst (v := iZ (-1)) hx hb dX12_live_24 rfl ?_
    refine lv_icmp_ne (tgt := 35) hx hb dX12_live_25 rfl (fun c_8 => ?_) (fun c_8 => ?_)
    ·
      have c_8 := mt (zeq (x := iZ (gz Af 5)) (y := iZ (-1)) rfl rfl (gz_rg Af 5) wn_m1).mpr c_8
      refine lv_aload_n hx hb dX12_live_35 rfl (lv_at hl 0 rfl) ?_
      refine lv_iload_n hx hb dX12_live_36 rfl (lv_at hl 1 rfl) ?_
      refine CWV (As := [.int (iZ x1)]) (rest := []) (wc := _) (wr := [(Mq, .inl (k 1, 5, .inl Qf))]) hx hb hml hown hts hKK hP hD hS hA (m_lives l D k hm Ma Mn Ms My Mt Mp Mx Mo Mk Ml Mb Mh Mc Mz Mr Mq Mst Mtd Msz Mtk Mfr Men Mva Mfk Mfp Mfs Mse Mlt Mdp Mct Mdr Mrs Mit Mmk Mtp Mbt Af Kf Lf Bf Hf Zf Rf x1 hM ⟨by omega, by omega⟩ rgH) ci_X12_lives qm_X12_401 ⟨Nat.le_of_ble_eq_true rfl, Nat.le_of_ble_eq_true rfl⟩ ⟨Nat.le_of_ble_eq_true rfl, Nat.le_of_ble_eq_true rfl⟩ [0, 1, 2, 3, 4, 5, 6, 7] [8] rfl rfl rfl rfl rfl (dj rfl) 0 rfl rfl rfl hl.1 rfl (Nat.le_of_ble_eq_true rfl) dX12_live_37 (fun u_9 H locs hφ hP hD hS => ?_)
      obtain ⟨p_10, p_11, p_12, p_13, p_14⟩ : (M0 u_9.2.2.1.1) ∧ (FR u_9.2.2.1.1 Af) ∧ (0 ≤ u_9.1.2.1 ∧ u_9.1.2.1 ≤ 65535) ∧ (rgI u_9.2.2.1.2.2.2.2.1 0 1000000 120) ∧ (0 ≤ u_9.1.2.2 ∧ u_9.1.2.2 ≤ 200) := hφ
      obtain ⟨m0m_15, m1m_15, m3m_15, m4m_15, m5m_15, mFm_15, mOm_15, mSm_15⟩ := id p_10
      have frm_15 := FR.z p_11
      refine W.eq (g2 := F0 m 40 ls []) rfl ?_
      refine lv_iconst (v := iZ 0) hx hb dX12_live_40 rfl ?_
      refine lv_istore_n (lv' := [(2, .int (iZ 0)), (0, .ref hm), (1, .int (iZ x1))]) hx hb dX12_live_41 rfl hl (bl rfl) rfl (fun ls hl => ?_)
      have HL42 : ∀ (fu : Nat) (v2_42 : Int) (Qfq42 : Nat → Int32) (H : Heap) (locs : List Loc) (ls : Array Slot), ((4) + 2 - v2_42) < (fu : Int) → ((0 ≤ v2_42 ∧ v2_42 ≤ (4) + 1)) → va_P D vwCl [(Mq, .inl (k 1, 5, .inl Qfq42)), (hm, .inr (12, [.ref Ma, .ref Mn, .int (iZ Mst), .long Mtp, .long Mbt, .ref Ms, .ref My, .ref Mt, .ref Mp, .ref Mx, .int (iZ Mtd), .int (iZ Msz), .int (iZ Mtk), .int (iZ Mfr), .int (iZ Men), .int (iZ Mva), .int (iZ Mfk), .int (iZ Mfp), .int (iZ Mfs), .int (iZ Mse), .int (iZ Mlt), .ref Mo, .int (iZ Mdp), .int (iZ Mct), .ref Mk, .ref Ml, .ref Mb, .ref Mh, .ref Mc, .int (iZ u_9.1.2.1), .int (iZ u_9.1.2.2), .ref Mz, .ref Mr, .ref Mq, .int (iZ Mit), .int (iZ Mmk)])), (Ma, .inl (k 1, 5340, .inl u_9.2.2.1.1)), (Mk, .inl (k 1, 6, .inl u_9.2.2.1.2.1)), (Ml, .inl (k 1, 6, .inl u_9.2.2.1.2.2.1)), (Mb, .inl (k 1, 6, .inl u_9.2.2.1.2.2.2.1)), (Mh, .inl (k 1, 120, .inl u_9.2.2.1.2.2.2.2.1)), (Mz, .inl (k 1, 80, .inl u_9.2.2.1.2.2.2.2.2.1)), (Mr, .inl (k 1, 5, .inl u_9.2.2.1.2.2.2.2.2.2))] H → va_D A [(Mq, .inl (k 1, 5, .inl Qfq42)), (hm, .inr (12, [.ref Ma, .ref Mn, .int (iZ Mst), .long Mtp, .long Mbt, .ref Ms, .ref My, .ref Mt, .ref Mp, .ref Mx, .int (iZ Mtd), .int (iZ Msz), .int (iZ Mtk), .int (iZ Mfr), .int (iZ Men), .int (iZ Mva), .int (iZ Mfk), .int (iZ Mfp), .int (iZ Mfs), .int (iZ Mse), .int (iZ Mlt), .ref Mo, .int (iZ Mdp), .int (iZ Mct), .ref Mk, .ref Ml, .ref Mb, .ref Mh, .ref Mc, .int (iZ u_9.1.2.1), .int (iZ u_9.1.2.2), .ref Mz, .ref Mr, .ref Mq, .int (iZ Mit), .int (iZ Mmk)])), (Ma, .inl (k 1, 5340, .inl u_9.2.2.1.1)), (Mk, .inl (k 1, 6, .inl u_9.2.2.1.2.1)), (Ml, .inl (k 1, 6, .inl u_9.2.2.1.2.2.1)), (Mb, .inl (k 1, 6, .inl u_9.2.2.1.2.2.2.1)), (Mh, .inl (k 1, 120, .inl u_9.2.2.1.2.2.2.2.1)), (Mz, .inl (k 1, 80, .inl u_9.2.2.1.2.2.2.2.2.1)), (Mr, .inl (k 1, 5, .inl u_9.2.2.1.2.2.2.2.2.2))] → va_S A s.heap H locs → lv_has ls 3 [(2, .int (iZ v2_42)), (0, .ref hm), (1, .int (iZ x1))] → W p l e (rj 10 0 0) s m [.ref hm, .int (iZ x1)].toArray below meth c H locs 0 0 (MQ below (QW (σ := ((Int × Int × Int × Int × Int) × (Int64) × ((Nat → Int32) × (Nat → Int32) × (Nat → Int32) × (Nat → Int32) × (Nat → Int32) × (Nat → Int32) × (Nat → Int32) × (Nat → Int32)) × (Unit))) (fun u => some (.int (iZ u.1.1))) (fun u => (M0 u.2.2.1.2.1) ∧ (FR u.2.2.1.2.1 Af) ∧ (0 ≤ u.1.2.2.2.1 ∧ u.1.2.2.2.1 ≤ 65535) ∧ (rgI u.2.2.1.2.2.2.2.2.1 0 1000000 120) ∧ (u.1.2.2.1 = 0 ∨ u.1.2.2.1 = 1)) (fun u => [(hm, .inr (12, [.ref Ma, .ref Mn, .int (iZ u.1.2.1), .long Mtp, .long Mbt, .ref Ms, .ref My, .ref Mt, .ref Mp, .ref Mx, .int (iZ Mtd), .int (iZ Msz), .int (iZ Mtk), .int (iZ Mfr), .int (iZ Men), .int (iZ Mva), .int (iZ Mfk), .int (iZ Mfp), .int (iZ Mfs), .int (iZ Mse), .int (iZ Mlt), .ref Mo, .int (iZ Mdp), .int (iZ Mct), .ref Mk, .ref Ml, .ref Mb, .ref Mh, .ref Mc, .int (iZ u.1.2.2.2.1), .int (iZ u.1.2.2.2.2), .ref Mz, .ref Mr, .ref Mq, .int (iZ u.1.2.2.1), .int (iZ Mmk)])), (Ma, .inl (k 1, 5340, .inl u.2.2.1.2.1)), (Mk, .inl (k 1, 6, .inl u.2.2.1.2.2.1)), (Ml, .inl (k 1, 6, .inl u.2.2.1.2.2.2.1)), (Mb, .inl (k 1, 6, .inl u.2.2.1.2.2.2.2.1)), (Mh, .inl (k 1, 120, .inl u.2.2.1.2.2.2.2.2.1)), (Mz, .inl (k 1, 80, .inl u.2.2.1.2.2.2.2.2.2.1)), (Mr, .inl (k 1, 5, .inl u.2.2.1.2.2.2.2.2.2.2)), (Mq, .inl (k 1, 5, .inl u.2.2.1.1))]) D A) [.ref hm, .int (iZ x1)].toArray s 0 0 A) (F0 m 42 ls []) := by
        intro fu
        induction fu with
        | zero => intro v2_42 Qfq42 H locs ls hμ42 hi42 hP hD hS hl; exact absurd hμ42 (by omega)
        | succ fu ih42 =>
          intro v2_42 Qfq42 H locs ls hμ42 hi42 hP hD hS hl
          refine lv_iload_n hx hb dX12_live_42 rfl (lv_at hl 0 rfl) ?_
          refine lv_iconst (v := iZ 5) hx hb dX12_live_43 rfl ?_
          refine lv_icmp_ge (tgt := 65) hx hb dX12_live_44 rfl (fun c_16 => ?_) (fun c_16 => ?_)
          ·
            have c_16 := (zle (x := iZ 5) (y := iZ v2_42) rfl rfl wn_5 ⟨by omega, by omega⟩).mp c_16
            refine lv_aload_n hx hb dX12_live_65 rfl (lv_at hl 1 rfl) ?_
            refine lv_iconst (v := iZ 1) hx hb dX12_live_66 rfl ?_
            refine va_put (D := D) (ci := 12) (v := .int (iZ 1)) (ty := .boolean) (C := RX12) (T := TX12) (N := 36) hx hb hts iX12 tyX12 tyX12_ok nmX12 hown hK hP hD hS 1 rfl rfl 34 (bl rfl) (hts _ qf_X12_404) (fun _ h => h) rfl (by decide +kernel) rfl rfl (Nat.le_of_ble_eq_true rfl) dX12_live_67 (fun H locs hP hD hS => ?_)
            refine lv_aload_n hx hb dX12_live_70 rfl (lv_at hl 1 rfl) ?_
            refine lv_aload_n hx hb dX12_live_71 rfl (lv_at hl 1 rfl) ?_
            refine va_get (D := D) (ci := 12) (v := .int (iZ u_9.1.2.2)) (C := RX12) (T := TX12) (N := 36) hx hb hts iX12 hown hK hP 1 rfl rfl 30 (bl rfl) (hts _ qf_X12_387) (fun _ h => h) rfl dX12_live_72 ?_
            refine CWV (As := [.int (iZ u_9.1.2.2)]) (rest := []) (wc := _) (wr := [(Mq, .inl (k 1, 5, .inl Qfq42)), (Ma, .inl (k 1, 5340, .inl u_9.2.2.1.1)), (Mk, .inl (k 1, 6, .inl u_9.2.2.1.2.1)), (Ml, .inl (k 1, 6, .inl u_9.2.2.1.2.2.1)), (Mb, .inl (k 1, 6, .inl u_9.2.2.1.2.2.2.1)), (Mh, .inl (k 1, 120, .inl u_9.2.2.1.2.2.2.2.1)), (Mz, .inl (k 1, 80, .inl u_9.2.2.1.2.2.2.2.2.1)), (Mr, .inl (k 1, 5, .inl u_9.2.2.1.2.2.2.2.2.2))]) hx hb hml hown hts hKK hP hD hS hA (m_gives l D k hm Ma Mn Ms My Mt Mp Mx Mo Mk Ml Mb Mh Mc Mz Mr Mq Mst Mtd Msz Mtk Mfr Men Mva Mfk Mfp Mfs Mse Mlt Mdp Mct u_9.1.2.1 u_9.1.2.2 1 Mmk Mtp Mbt u_9.1.2.2) ci_X12_gives qm_X12_85 ⟨Nat.le_of_ble_eq_true rfl, Nat.le_of_ble_eq_true rfl⟩ ⟨Nat.le_of_ble_eq_true rfl, Nat.le_of_ble_eq_true rfl⟩ [1] [0, 2, 3, 4, 5, 6, 7, 8] rfl rfl rfl rfl rfl (dj rfl) 0 rfl rfl rfl hl.1 rfl (Nat.le_of_ble_eq_true rfl) dX12_live_75 (fun u_17 H locs hφ hP hD hS => ?_)
            refine W.eq (g2 := F0 m 78 ls [.int (iZ u_9.1.2.2)]) rfl ?_
            exact EWi hx hb hr hlocks hS ((u_9.1.2.2, 0, 1, u_9.1.2.1, u_9.1.2.2), 0, (Qfq42, u_9.2.2.1.1, u_9.2.2.1.2.1, u_9.2.2.1.2.2.1, u_9.2.2.1.2.2.2.1, u_9.2.2.1.2.2.2.2.1, u_9.2.2.1.2.2.2.2.2.1, u_9.2.2.1.2.2.2.2.2.2), ()) rfl ⟨(show M0 u_9.2.2.1.1 from p_10), (show FR u_9.2.2.1.1 Af from p_11), (show 0 ≤ u_9.1.2.1 ∧ u_9.1.2.1 ≤ 65535 from (by omega)), (show rgI u_9.2.2.1.2.2.2.2.1 0 1000000 120 from p_13), (show 1 = 0 ∨ 1 = 1 from (by omega))⟩ (hP.sub [8, 1, 2, 3, 4, 5, 6, 7, 0] rfl) (hD.sub [8, 1, 2, 3, 4, 5, 6, 7, 0] rfl rfl) dX12_live_78
          ·
            have c_16 := mt (zle (x := iZ 5) (y := iZ v2_42) rfl rfl wn_5 ⟨by omega, by omega⟩).mpr c_16
            refine lv_aload_n hx hb dX12_live_47 rfl (lv_at hl 1 rfl) ?_
            refine va_get (D := D) (ci := 12) (v := .ref Mq) (C := RX12) (T := TX12) (N := 36) hx hb hts iX12 hown hK hP 1 rfl rfl 33 (bl rfl) (hts _ qf_X12_68) (fun _ h => h) rfl dX12_live_48 ?_
            refine lv_iload_n hx hb dX12_live_51 rfl (lv_at hl 0 rfl) ?_
            refine lv_aload_n hx hb dX12_live_52 rfl (lv_at hl 1 rfl) ?_
            refine va_get (D := D) (ci := 12) (v := .ref Mr) (C := RX12) (T := TX12) (N := 36) hx hb hts iX12 hown hK hP 1 rfl rfl 32 (bl rfl) (hts _ qf_X12_65) (fun _ h => h) rfl dX12_live_53 ?_
            refine lv_iload_n hx hb dX12_live_56 rfl (lv_at hl 0 rfl) ?_
            refine va_iald hx hb hK hP 8 1 rfl rfl (zin (e := v2_42) (n := 5) ⟨by omega, by omega⟩ (bl rfl)) dX12_live_57 ?_
            refine lv_topi (fun x_18 ex_18 => ?_)
            obtain rfl : x_18 = iZ (gz u_9.2.2.1.2.2.2.2.2.2 v2_42) := ex_18.trans (gz_eq ⟨by omega, by omega⟩)
            have h_19 := gz_rg u_9.2.2.1.2.2.2.2.2.2 v2_42
            refine va_iast hx hb hK hP hD hS 0 1 rfl rfl (zin (e := v2_42) (n := 5) ⟨by omega, by omega⟩ (bl rfl)) dX12_live_58 (fun H locs hP hD hS => ?_)
            obtain ⟨f_20, hf_20⟩ : ∃ gg9, gg9 = upd Qfq42 (iZ v2_42).toNatClampNeg (iZ (gz u_9.2.2.1.2.2.2.2.2.2 v2_42)) := ⟨_, rfl⟩
            rw [← hf_20] at hP hD
            refine lv_iinc (v := iZ (v2_42 + 1)) (lv' := [(2, .int (iZ (v2_42 + 1))), (0, .ref hm), (1, .int (iZ x1))]) hx hb dX12_live_59 hl (k := 0) rfl (iZ_add v2_42 1) (by decide) rfl (fun ls hl => ?_)
            refine lv_goto (tgt := 42) hx hb dX12_live_62 rfl ?_
            exact ih42  (v2_42 + 1) f_20 _ _ _ (by omega) (show (0 ≤ (v2_42 + 1) ∧ (v2_42 + 1) ≤ (4) + 1) from ⟨by omega, by omega⟩) (hP.sub [0, 1, 2, 3, 4, 5, 6, 7, 8] rfl) (hD.sub [0, 1, 2, 3, 4, 5, 6, 7, 8] rfl rfl) hS (lv_sub hl [0, 1, 2] rfl)
      exact HL42 8 0 Qf _ _ _ (by omega) (show (0 ≤ 0 ∧ 0 ≤ (4) + 1) from ⟨by omega, by omega⟩) (hP.sub [0, 1, 2, 3, 4, 5, 6, 7, 8] rfl) (hD.sub [0, 1, 2, 3, 4, 5, 6, 7, 8] rfl rfl) hS (lv_sub hl [0, 1, 2] rfl)
    ·
      have c_8 := (zeq (x := iZ (gz Af 5)) (y := iZ (-1)) rfl rfl (gz_rg Af 5) wn_m1).mp c_8
      refine lv_aload_n hx hb dX12_live_28 rfl (lv_at hl 0 rfl) ?_
      refine lv_bipush (v := iZ 6) hx hb dX12_live_29 bip_6 ?_
      refine CWV (As := [.int (iZ 6)]) (rest := []) (wc := _) (wr := [(Ma, .inl (k 1, 5340, .inl Af)), (Mk, .inl (k 1, 6, .inl Kf)), (Ml, .inl (k 1, 6, .inl Lf)), (Mb, .inl (k 1, 6, .inl Bf)), (Mh, .inl (k 1, 120, .inl Hf)), (Mz, .inl (k 1, 80, .inl Zf)), (Mr, .inl (k 1, 5, .inl Rf)), (Mq, .inl (k 1, 5, .inl Qf))]) hx hb hml hown hts hKK hP hD hS hA (m_refuse l D k hm Ma Mn Ms My Mt Mp Mx Mo Mk Ml Mb Mh Mc Mz Mr Mq Mst Mtd Msz Mtk Mfr Men Mva Mfk Mfp Mfs Mse Mlt Mdp Mct Mdr Mrs Mit Mmk Mtp Mbt 6) ci_X12_refuse qm_X12_81 ⟨Nat.le_of_ble_eq_true rfl, Nat.le_of_ble_eq_true rfl⟩ ⟨Nat.le_of_ble_eq_true rfl, Nat.le_of_ble_eq_true rfl⟩ [0] [1, 2, 3, 4, 5, 6, 7, 8] rfl rfl rfl rfl rfl (dj rfl) 0 rfl rfl rfl hl.1 rfl (Nat.le_of_ble_eq_true rfl) dX12_live_31 (fun u_21 H locs hφ hP hD hS => ?_)
      refine W.eq (g2 := F0 m 34 ls [.int (iZ (-1))]) rfl ?_
      exact EWi hx hb hr hlocks hS (((-1), 6, Mit, Mdr, Mrs), 0, (Qf, Af, Kf, Lf, Bf, Hf, Zf, Rf), ()) rfl ⟨(show M0 Af from hM), (show FR Af Af from (FR.rf Af)), (show 0 ≤ Mdr ∧ Mdr ≤ 65535 from (by omega)), (show rgI Hf 0 1000000 120 from rgH), (show Mit = 0 ∨ Mit = 1 from (by omega))⟩ (hP.sub [8, 0, 1, 2, 3, 4, 5, 6, 7] rfl) (hD.sub [8, 0, 1, 2, 3, 4, 5, 6, 7] rfl rfl) dX12_live_34
  ·
    subst qz_1
    refine lv_if_ne (tgt := 18) hx hb dX12_live_9 rfl (fun c => absurd (by decide) c) (fun _ => ?_)
    refine lv_aload_n hx hb dX12_live_12 rfl (lv_at hl 0 rfl) ?_
    refine lv_iconst (v := iZ 1) hx hb dX12_live_13 rfl ?_
    refine CWV (As := [.int (iZ 1)]) (rest := []) (wc := _) (wr := [(Ma, .inl (k 1, 5340, .inl Af)), (Mk, .inl (k 1, 6, .inl Kf)), (Ml, .inl (k 1, 6, .inl Lf)), (Mb, .inl (k 1, 6, .inl Bf)), (Mh, .inl (k 1, 120, .inl Hf)), (Mz, .inl (k 1, 80, .inl Zf)), (Mr, .inl (k 1, 5, .inl Rf)), (Mq, .inl (k 1, 5, .inl Qf))]) hx hb hml hown hts hKK hP hD hS hA (m_refuse l D k hm Ma Mn Ms My Mt Mp Mx Mo Mk Ml Mb Mh Mc Mz Mr Mq Mst Mtd Msz Mtk Mfr Men Mva Mfk Mfp Mfs Mse Mlt Mdp Mct Mdr Mrs Mit Mmk Mtp Mbt 1) ci_X12_refuse qm_X12_81 ⟨Nat.le_of_ble_eq_true rfl, Nat.le_of_ble_eq_true rfl⟩ ⟨Nat.le_of_ble_eq_true rfl, Nat.le_of_ble_eq_true rfl⟩ [0] [1, 2, 3, 4, 5, 6, 7, 8] rfl rfl rfl rfl rfl (dj rfl) 0 rfl rfl rfl hl.1 rfl (Nat.le_of_ble_eq_true rfl) dX12_live_14 (fun u_23 H locs hφ hP hD hS => ?_)
    refine W.eq (g2 := F0 m 17 ls [.int (iZ (-1))]) rfl ?_
    exact EWi hx hb hr hlocks hS (((-1), 1, Mit, Mdr, Mrs), 0, (Qf, Af, Kf, Lf, Bf, Hf, Zf, Rf), ()) rfl ⟨(show M0 Af from hM), (show FR Af Af from (FR.rf Af)), (show 0 ≤ Mdr ∧ Mdr ≤ 65535 from (by omega)), (show rgI Hf 0 1000000 120 from rgH), (show Mit = 0 ∨ Mit = 1 from (by omega))⟩ (hP.sub [8, 0, 1, 2, 3, 4, 5, 6, 7] rfl) (hD.sub [8, 0, 1, 2, 3, 4, 5, 6, 7] rfl rfl) dX12_live_17
set_option maxHeartbeats 4000000 in
set_option maxRecDepth 100000 in
theorem q_lived (l : Launch) (D : va_G) (k : Nat → ClassId) (hm : Nat) (Ma : Nat) (Mn : Nat) (Ms : Nat) (My : Nat) (Mt : Nat) (Mp : Nat) (Mx : Nat) (Mo : Nat) (Mk : Nat) (Ml : Nat) (Mb : Nat) (Mh : Nat) (Mc : Nat) (Mz : Nat) (Mr : Nat) (Mq : Nat) (Mst : Int) (Mtd : Int) (Msz : Int) (Mtk : Int) (Mfr : Int) (Men : Int) (Mva : Int) (Mfk : Int) (Mfp : Int) (Mfs : Int) (Mse : Int) (Mlt : Int) (Mdp : Int) (Mct : Int) (Mdr : Int) (Mrs : Int) (Mit : Int) (Mmk : Int) (Mtp : Int64) (Mbt : Int64) (Af : Nat → Int32) (Qf : Nat → Int32) (x1 : Int) (hM : M0 Af) (hit : Mit = 0 ∨ Mit = 1) (h9x1 : -2147483648 ≤ x1 ∧ x1 < 2147483648) : WD (σ := ((Int × Int) × (Int64) × (Unit) × (Unit))) l yX12_lived cX12_lived 2 (some .int) 1 0 0 D k [.ref hm, .int (iZ x1)] [(hm, .inr (12, [.ref Ma, .ref Mn, .int (iZ Mst), .long Mtp, .long Mbt, .ref Ms, .ref My, .ref Mt, .ref Mp, .ref Mx, .int (iZ Mtd), .int (iZ Msz), .int (iZ Mtk), .int (iZ Mfr), .int (iZ Men), .int (iZ Mva), .int (iZ Mfk), .int (iZ Mfp), .int (iZ Mfs), .int (iZ Mse), .int (iZ Mlt), .ref Mo, .int (iZ Mdp), .int (iZ Mct), .ref Mk, .ref Ml, .ref Mb, .ref Mh, .ref Mc, .int (iZ Mdr), .int (iZ Mrs), .ref Mz, .ref Mr, .ref Mq, .int (iZ Mit), .int (iZ Mmk)])), (Ma, .inl (k 1, 5340, .inl Af)), (Mq, .inl (k 1, 5, .inl Qf))] (fun u => some (.int (iZ u.1.1))) (fun _ => True) (fun u => [(hm, .inr (12, [.ref Ma, .ref Mn, .int (iZ u.1.2), .long Mtp, .long Mbt, .ref Ms, .ref My, .ref Mt, .ref Mp, .ref Mx, .int (iZ Mtd), .int (iZ Msz), .int (iZ Mtk), .int (iZ Mfr), .int (iZ Men), .int (iZ Mva), .int (iZ Mfk), .int (iZ Mfp), .int (iZ Mfs), .int (iZ Mse), .int (iZ Mlt), .ref Mo, .int (iZ Mdp), .int (iZ Mct), .ref Mk, .ref Ml, .ref Mb, .ref Mh, .ref Mc, .int (iZ Mdr), .int (iZ Mrs), .ref Mz, .ref Mr, .ref Mq, .int (iZ Mit), .int (iZ Mmk)])), (Ma, .inl (k 1, 5340, .inl Af)), (Mq, .inl (k 1, 5, .inl Qf))]) := by
  refine MW (by decide) (Nat.le_of_ble_eq_true rfl) (fun p e s m below meth c ls A hx hb hml hr hlocks hin hts hown hKK hP hD hS hA hl => ?_)
  have hK := hKK.1
  have hl : lv_has ls 2 [(0, .ref hm), (1, .int (iZ x1))] := hl
  obtain ⟨m0, m1, m3, m4, m5, mF, mO, mS⟩ := id hM
  refine lv_iload_n hx hb dX12_lived_0 rfl (lv_at hl 1 rfl) ?_
  refine lv_if_lt (tgt := 9) hx hb dX12_lived_1 rfl (fun c_1 => ?_) (fun c_1 => ?_)
  ·
    have c_1 := (zlt (x := iZ x1) (y := iZ 0) rfl rfl ⟨by omega, by omega⟩ wn_0).mp c_1
    refine lv_aload_n hx hb dX12_lived_9 rfl (lv_at hl 0 rfl) ?_
    refine lv_iconst (v := iZ 1) hx hb dX12_lived_10 rfl ?_
    refine CWV (As := [.int (iZ 1)]) (rest := []) (wc := _) (wr := [(Ma, .inl (k 1, 5340, .inl Af)), (Mq, .inl (k 1, 5, .inl Qf))]) hx hb hml hown hts hKK hP hD hS hA (m_refuse l D k hm Ma Mn Ms My Mt Mp Mx Mo Mk Ml Mb Mh Mc Mz Mr Mq Mst Mtd Msz Mtk Mfr Men Mva Mfk Mfp Mfs Mse Mlt Mdp Mct Mdr Mrs Mit Mmk Mtp Mbt 1) ci_X12_refuse qm_X12_81 ⟨Nat.le_of_ble_eq_true rfl, Nat.le_of_ble_eq_true rfl⟩ ⟨Nat.le_of_ble_eq_true rfl, Nat.le_of_ble_eq_true rfl⟩ [0] [1, 2] rfl rfl rfl rfl rfl (dj rfl) 0 rfl rfl rfl hl.1 rfl (Nat.le_of_ble_eq_true rfl) dX12_lived_11 (fun u_2 H locs hφ hP hD hS => ?_)
    refine W.eq (g2 := F0 m 14 ls [.int (iZ (-1))]) rfl ?_
    refine lv_goto (tgt := 43) hx hb dX12_lived_14 rfl ?_
    exact EWi hx hb hr hlocks hS (((-1), 1), 0, (), ()) rfl trivial (hP.sub [2, 0, 1] rfl) (hD.sub [2, 0, 1] rfl rfl) dX12_lived_43
  ·
    have c_1 := mt (zlt (x := iZ x1) (y := iZ 0) rfl rfl ⟨by omega, by omega⟩ wn_0).mpr c_1
    refine lv_iload_n hx hb dX12_lived_4 rfl (lv_at hl 1 rfl) ?_
    refine lv_iconst (v := iZ 4) hx hb dX12_lived_5 rfl ?_
    refine lv_icmp_le (tgt := 17) hx hb dX12_lived_6 rfl (fun c_3 => ?_) (fun c_3 => ?_)
    ·
      have c_3 := (zle (x := iZ x1) (y := iZ 4) rfl rfl ⟨by omega, by omega⟩ wn_4).mp c_3
      refine lv_aload_n hx hb dX12_lived_17 rfl (lv_at hl 0 rfl) ?_
      refine va_get (D := D) (ci := 12) (v := .int (iZ Mit)) (C := RX12) (T := TX12) (N := 36) hx hb hts iX12 hown hK hP 0 rfl rfl 34 (bl rfl) (hts _ qf_X12_404) (fun _ h => h) rfl dX12_lived_18 ?_
      refine lv_if_eq (tgt := 37) hx hb dX12_lived_21 rfl (fun c_4 => ?_) (fun c_4 => ?_)
      ·
        have c_4 := (zeq (x := iZ Mit) (y := iZ 0) rfl rfl ⟨by omega, by omega⟩ wn_0).mp c_4
        refine lv_aload_n hx hb dX12_lived_37 rfl (lv_at hl 0 rfl) ?_
        refine lv_bipush (v := iZ 6) hx hb dX12_lived_38 bip_6 ?_
        refine CWV (As := [.int (iZ 6)]) (rest := []) (wc := _) (wr := [(Ma, .inl (k 1, 5340, .inl Af)), (Mq, .inl (k 1, 5, .inl Qf))]) hx hb hml hown hts hKK hP hD hS hA (m_refuse l D k hm Ma Mn Ms My Mt Mp Mx Mo Mk Ml Mb Mh Mc Mz Mr Mq Mst Mtd Msz Mtk Mfr Men Mva Mfk Mfp Mfs Mse Mlt Mdp Mct Mdr Mrs Mit Mmk Mtp Mbt 6) ci_X12_refuse qm_X12_81 ⟨Nat.le_of_ble_eq_true rfl, Nat.le_of_ble_eq_true rfl⟩ ⟨Nat.le_of_ble_eq_true rfl, Nat.le_of_ble_eq_true rfl⟩ [0] [1, 2] rfl rfl rfl rfl rfl (dj rfl) 0 rfl rfl rfl hl.1 rfl (Nat.le_of_ble_eq_true rfl) dX12_lived_40 (fun u_5 H locs hφ hP hD hS => ?_)
        refine W.eq (g2 := F0 m 43 ls [.int (iZ (-1))]) rfl ?_
        exact EWi hx hb hr hlocks hS (((-1), 6), 0, (), ()) rfl trivial (hP.sub [2, 0, 1] rfl) (hD.sub [2, 0, 1] rfl rfl) dX12_lived_43
      ·
        have c_4 := mt (zeq (x := iZ Mit) (y := iZ 0) rfl rfl ⟨by omega, by omega⟩ wn_0).mpr c_4
        refine lv_aload_n hx hb dX12_lived_24 rfl (lv_at hl 0 rfl) ?_
        refine lv_aload_n hx hb dX12_lived_25 rfl (lv_at hl 0 rfl) ?_
        refine va_get (D := D) (ci := 12) (v := .ref Mq) (C := RX12) (T := TX12) (N := 36) hx hb hts iX12 hown hK hP 0 rfl rfl 33 (bl rfl) (hts _ qf_X12_68) (fun _ h => h) rfl dX12_lived_26 ?_
        refine lv_iload_n hx hb dX12_lived_29 rfl (lv_at hl 1 rfl) ?_
        refine va_iald hx hb hK hP 2 1 rfl rfl (zin (e := x1) (n := 5) ⟨by omega, by omega⟩ (bl rfl)) dX12_lived_30 ?_
        refine lv_topi (fun x_6 ex_6 => ?_)
        obtain rfl : x_6 = iZ (gz Qf x1) := ex_6.trans (gz_eq ⟨by omega, by omega⟩)
        have h_7 := gz_rg Qf x1
        refine CWV (As := [.int (iZ (gz Qf x1))]) (rest := []) (wc := _) (wr := [(Ma, .inl (k 1, 5340, .inl Af)), (Mq, .inl (k 1, 5, .inl Qf))]) hx hb hml hown hts hKK hP hD hS hA (m_gives l D k hm Ma Mn Ms My Mt Mp Mx Mo Mk Ml Mb Mh Mc Mz Mr Mq Mst Mtd Msz Mtk Mfr Men Mva Mfk Mfp Mfs Mse Mlt Mdp Mct Mdr Mrs Mit Mmk Mtp Mbt (gz Qf x1)) ci_X12_gives qm_X12_85 ⟨Nat.le_of_ble_eq_true rfl, Nat.le_of_ble_eq_true rfl⟩ ⟨Nat.le_of_ble_eq_true rfl, Nat.le_of_ble_eq_true rfl⟩ [0] [1, 2] rfl rfl rfl rfl rfl (dj rfl) 0 rfl rfl rfl hl.1 rfl (Nat.le_of_ble_eq_true rfl) dX12_lived_31 (fun u_8 H locs hφ hP hD hS => ?_)
        refine W.eq (g2 := F0 m 34 ls [.int (iZ (gz Qf x1))]) rfl ?_
        refine lv_goto (tgt := 43) hx hb dX12_lived_34 rfl ?_
        exact EWi hx hb hr hlocks hS (((gz Qf x1), 0), 0, (), ()) rfl trivial (hP.sub [2, 0, 1] rfl) (hD.sub [2, 0, 1] rfl rfl) dX12_lived_43
    ·
      have c_3 := mt (zle (x := iZ x1) (y := iZ 4) rfl rfl ⟨by omega, by omega⟩ wn_4).mpr c_3
      refine lv_aload_n hx hb dX12_lived_9 rfl (lv_at hl 0 rfl) ?_
      refine lv_iconst (v := iZ 1) hx hb dX12_lived_10 rfl ?_
      refine CWV (As := [.int (iZ 1)]) (rest := []) (wc := _) (wr := [(Ma, .inl (k 1, 5340, .inl Af)), (Mq, .inl (k 1, 5, .inl Qf))]) hx hb hml hown hts hKK hP hD hS hA (m_refuse l D k hm Ma Mn Ms My Mt Mp Mx Mo Mk Ml Mb Mh Mc Mz Mr Mq Mst Mtd Msz Mtk Mfr Men Mva Mfk Mfp Mfs Mse Mlt Mdp Mct Mdr Mrs Mit Mmk Mtp Mbt 1) ci_X12_refuse qm_X12_81 ⟨Nat.le_of_ble_eq_true rfl, Nat.le_of_ble_eq_true rfl⟩ ⟨Nat.le_of_ble_eq_true rfl, Nat.le_of_ble_eq_true rfl⟩ [0] [1, 2] rfl rfl rfl rfl rfl (dj rfl) 0 rfl rfl rfl hl.1 rfl (Nat.le_of_ble_eq_true rfl) dX12_lived_11 (fun u_9 H locs hφ hP hD hS => ?_)
      refine W.eq (g2 := F0 m 14 ls [.int (iZ (-1))]) rfl ?_
      refine lv_goto (tgt := 43) hx hb dX12_lived_14 rfl ?_
      exact EWi hx hb hr hlocks hS (((-1), 1), 0, (), ()) rfl trivial (hP.sub [2, 0, 1] rfl) (hD.sub [2, 0, 1] rfl rfl) dX12_lived_43
end

section
theorem qk_X12_407 : Cond.constantLong RX12 407 (10) ∈ gw := tbt (tb9 (List.mem_of_getElem? (i := 34) rfl)) rfl
theorem qc_X12_bits : Cond.code yX12_bits cX12_bits 3 (some .int) ∈ gw := tbt (tb9 (List.mem_of_getElem? (i := 37) rfl)) rfl
theorem qt_yX12_bits : Cond.static yX12_bits ∈ gw := tbt (tb9 (List.mem_of_getElem? (i := 36) rfl)) rfl
theorem ci_X12_bits : CIs yX12_bits cX12_bits 3 (some .int) 1 := ⟨qc_X12_bits, qt_yX12_bits, qz_X12, by decide +kernel⟩
theorem qm_X12_409 : Cond.methodLink RX12 409 yX12_bits ∈ gw := tbt (tb9 (List.mem_of_getElem? (i := 35) rfl)) rfl
def fb_X12_mean_0 : List UInt8 := [0x1b, 0x85, 0x09, 0x14, 0x01, 0x8f, 0xb8, 0x01, 0x27, 0x99, 0x00, 0x1a, 0x1c, 0x85, 0x0a, 0x14, 0x01, 0x97, 0xb8, 0x01, 0x27, 0x99, 0x00, 0x0e, 0x1b, 0x1c, 0x60, 0x04, 0x64, 0x11, 0x27, 0x0f, 0xa4, 0x00, 0x09, 0x2a, 0x04, 0xb6, 0x00, 0x59, 0xac, 0x2a, 0xb4, 0x00, 0x07, 0x08, 0x2e, 0x02, 0xa0, 0x00, 0x0a, 0x2a, 0x10, 0x06, 0xb6, 0x00, 0x59, 0xac, 0x03, 0x3e, 0x1d, 0x11, 0x02, 0x08]
theorem fl_X12_mean_0 {p j : Nat} {b : UInt8} (e : p = 0 + j) (h : fb_X12_mean_0[j]? = some b) : cX12_mean.data.toList[p]? = some b := fq_l (n := 64) (show (cX12_mean.data.toList.drop 0).take 64 = fb_X12_mean_0 by decide +kernel) e h
theorem dX12_mean_0 : decode cX12_mean 0 = .ok (.iload_n 1, 1) := fq1_27 (fl_X12_mean_0 (j := 0) rfl rfl)
theorem dX12_mean_1 : decode cX12_mean 1 = .ok (.i2l, 1) := fq1_133 (fl_X12_mean_0 (j := 1) rfl rfl)
theorem dX12_mean_2 : decode cX12_mean 2 = .ok (.lconst 0, 1) := fq1_9 (fl_X12_mean_0 (j := 2) rfl rfl)
theorem dX12_mean_3 : decode cX12_mean 3 = .ok (.ldc2_w 399, 3) := fq3_20 (fl_X12_mean_0 (j := 3) rfl rfl) (fl_X12_mean_0 (j := 4) rfl rfl) (fl_X12_mean_0 (j := 5) rfl rfl) rfl
theorem dX12_mean_6 : decode cX12_mean 6 = .ok (.invokestatic 295, 3) := fq3_184 (fl_X12_mean_0 (j := 6) rfl rfl) (fl_X12_mean_0 (j := 7) rfl rfl) (fl_X12_mean_0 (j := 8) rfl rfl) rfl
theorem dX12_mean_9 : decode cX12_mean 9 = .ok (.ifCond .eq 26, 3) := fq3_153 (fl_X12_mean_0 (j := 9) rfl rfl) (fl_X12_mean_0 (j := 10) rfl rfl) (fl_X12_mean_0 (j := 11) rfl rfl) (s2p rfl (bl rfl))
theorem dX12_mean_12 : decode cX12_mean 12 = .ok (.iload_n 2, 1) := fq1_28 (fl_X12_mean_0 (j := 12) rfl rfl)
theorem dX12_mean_13 : decode cX12_mean 13 = .ok (.i2l, 1) := fq1_133 (fl_X12_mean_0 (j := 13) rfl rfl)
theorem dX12_mean_14 : decode cX12_mean 14 = .ok (.lconst 1, 1) := fq1_10 (fl_X12_mean_0 (j := 14) rfl rfl)
theorem dX12_mean_15 : decode cX12_mean 15 = .ok (.ldc2_w 407, 3) := fq3_20 (fl_X12_mean_0 (j := 15) rfl rfl) (fl_X12_mean_0 (j := 16) rfl rfl) (fl_X12_mean_0 (j := 17) rfl rfl) rfl
theorem dX12_mean_18 : decode cX12_mean 18 = .ok (.invokestatic 295, 3) := fq3_184 (fl_X12_mean_0 (j := 18) rfl rfl) (fl_X12_mean_0 (j := 19) rfl rfl) (fl_X12_mean_0 (j := 20) rfl rfl) rfl
theorem dX12_mean_21 : decode cX12_mean 21 = .ok (.ifCond .eq 14, 3) := fq3_153 (fl_X12_mean_0 (j := 21) rfl rfl) (fl_X12_mean_0 (j := 22) rfl rfl) (fl_X12_mean_0 (j := 23) rfl rfl) (s2p rfl (bl rfl))
theorem dX12_mean_24 : decode cX12_mean 24 = .ok (.iload_n 1, 1) := fq1_27 (fl_X12_mean_0 (j := 24) rfl rfl)
theorem dX12_mean_25 : decode cX12_mean 25 = .ok (.iload_n 2, 1) := fq1_28 (fl_X12_mean_0 (j := 25) rfl rfl)
theorem dX12_mean_26 : decode cX12_mean 26 = .ok (.iadd, 1) := fq1_96 (fl_X12_mean_0 (j := 26) rfl rfl)
theorem dX12_mean_27 : decode cX12_mean 27 = .ok (.iconst 1, 1) := fq1_4 (fl_X12_mean_0 (j := 27) rfl rfl)
theorem dX12_mean_28 : decode cX12_mean 28 = .ok (.isub, 1) := fq1_100 (fl_X12_mean_0 (j := 28) rfl rfl)
theorem dX12_mean_29 : decode cX12_mean 29 = .ok (.sipush 9999, 3) := fq3_17 (fl_X12_mean_0 (j := 29) rfl rfl) (fl_X12_mean_0 (j := 30) rfl rfl) (fl_X12_mean_0 (j := 31) rfl rfl) (s2p rfl (bl rfl))
theorem dX12_mean_32 : decode cX12_mean 32 = .ok (.if_icmp .le 9, 3) := fq3_164 (fl_X12_mean_0 (j := 32) rfl rfl) (fl_X12_mean_0 (j := 33) rfl rfl) (fl_X12_mean_0 (j := 34) rfl rfl) (s2p rfl (bl rfl))
theorem dX12_mean_35 : decode cX12_mean 35 = .ok (.aload_n 0, 1) := fq1_42 (fl_X12_mean_0 (j := 35) rfl rfl)
theorem dX12_mean_36 : decode cX12_mean 36 = .ok (.iconst 1, 1) := fq1_4 (fl_X12_mean_0 (j := 36) rfl rfl)
theorem dX12_mean_37 : decode cX12_mean 37 = .ok (.invokevirtual 89, 3) := fq3_182 (fl_X12_mean_0 (j := 37) rfl rfl) (fl_X12_mean_0 (j := 38) rfl rfl) (fl_X12_mean_0 (j := 39) rfl rfl) rfl
theorem dX12_mean_40 : decode cX12_mean 40 = .ok (.ireturn, 1) := fq1_172 (fl_X12_mean_0 (j := 40) rfl rfl)
theorem dX12_mean_41 : decode cX12_mean 41 = .ok (.aload_n 0, 1) := fq1_42 (fl_X12_mean_0 (j := 41) rfl rfl)
theorem dX12_mean_42 : decode cX12_mean 42 = .ok (.getfield 7, 3) := fq3_180 (fl_X12_mean_0 (j := 42) rfl rfl) (fl_X12_mean_0 (j := 43) rfl rfl) (fl_X12_mean_0 (j := 44) rfl rfl) rfl
theorem dX12_mean_45 : decode cX12_mean 45 = .ok (.iconst 5, 1) := fq1_8 (fl_X12_mean_0 (j := 45) rfl rfl)
theorem dX12_mean_46 : decode cX12_mean 46 = .ok (.iaload, 1) := fq1_46 (fl_X12_mean_0 (j := 46) rfl rfl)
theorem dX12_mean_47 : decode cX12_mean 47 = .ok (.iconst (-1), 1) := fq1_2 (fl_X12_mean_0 (j := 47) rfl rfl)
theorem dX12_mean_48 : decode cX12_mean 48 = .ok (.if_icmp .ne 10, 3) := fq3_160 (fl_X12_mean_0 (j := 48) rfl rfl) (fl_X12_mean_0 (j := 49) rfl rfl) (fl_X12_mean_0 (j := 50) rfl rfl) (s2p rfl (bl rfl))
theorem dX12_mean_51 : decode cX12_mean 51 = .ok (.aload_n 0, 1) := fq1_42 (fl_X12_mean_0 (j := 51) rfl rfl)
theorem dX12_mean_52 : decode cX12_mean 52 = .ok (.bipush 6, 2) := fq2_16 (fl_X12_mean_0 (j := 52) rfl rfl) (fl_X12_mean_0 (j := 53) rfl rfl) (s1p rfl (bl rfl))
theorem dX12_mean_54 : decode cX12_mean 54 = .ok (.invokevirtual 89, 3) := fq3_182 (fl_X12_mean_0 (j := 54) rfl rfl) (fl_X12_mean_0 (j := 55) rfl rfl) (fl_X12_mean_0 (j := 56) rfl rfl) rfl
theorem dX12_mean_57 : decode cX12_mean 57 = .ok (.ireturn, 1) := fq1_172 (fl_X12_mean_0 (j := 57) rfl rfl)
theorem dX12_mean_58 : decode cX12_mean 58 = .ok (.iconst 0, 1) := fq1_3 (fl_X12_mean_0 (j := 58) rfl rfl)
theorem dX12_mean_59 : decode cX12_mean 59 = .ok (.istore_n 3, 1) := fq1_62 (fl_X12_mean_0 (j := 59) rfl rfl)
theorem dX12_mean_60 : decode cX12_mean 60 = .ok (.iload_n 3, 1) := fq1_29 (fl_X12_mean_0 (j := 60) rfl rfl)
theorem dX12_mean_61 : decode cX12_mean 61 = .ok (.sipush 520, 3) := fq3_17 (fl_X12_mean_0 (j := 61) rfl rfl) (fl_X12_mean_0 (j := 62) rfl rfl) (fl_X12_mean_0 (j := 63) rfl rfl) (s2p rfl (bl rfl))
def fb_X12_mean_1 : List UInt8 := [0xa2, 0x00, 0x19, 0x2a, 0xb4, 0x00, 0x07, 0x11, 0x11, 0x62, 0x1d, 0x60, 0x2a, 0xb4, 0x00, 0x07, 0x1d, 0x2e, 0x4f, 0x84, 0x03, 0x01, 0xa7, 0xff, 0xe6, 0x09, 0x42, 0x03, 0x36, 0x05, 0x15, 0x05, 0x1c, 0xa2, 0x00, 0x49, 0x2a, 0x1b, 0x15, 0x05, 0x60, 0xb6, 0x01, 0x91, 0x21, 0x2a, 0xb4, 0x00, 0x07, 0x10, 0x76, 0x2a, 0xb4, 0x00, 0x07, 0x06, 0x2e, 0x60, 0x2e, 0xb8, 0x01, 0x99, 0x85, 0x61]
theorem fl_X12_mean_1 {p j : Nat} {b : UInt8} (e : p = 64 + j) (h : fb_X12_mean_1[j]? = some b) : cX12_mean.data.toList[p]? = some b := fq_l (n := 64) (show (cX12_mean.data.toList.drop 64).take 64 = fb_X12_mean_1 by decide +kernel) e h
theorem dX12_mean_64 : decode cX12_mean 64 = .ok (.if_icmp .ge 25, 3) := fq3_162 (fl_X12_mean_1 (j := 0) rfl rfl) (fl_X12_mean_1 (j := 1) rfl rfl) (fl_X12_mean_1 (j := 2) rfl rfl) (s2p rfl (bl rfl))
theorem dX12_mean_67 : decode cX12_mean 67 = .ok (.aload_n 0, 1) := fq1_42 (fl_X12_mean_1 (j := 3) rfl rfl)
theorem dX12_mean_68 : decode cX12_mean 68 = .ok (.getfield 7, 3) := fq3_180 (fl_X12_mean_1 (j := 4) rfl rfl) (fl_X12_mean_1 (j := 5) rfl rfl) (fl_X12_mean_1 (j := 6) rfl rfl) rfl
theorem dX12_mean_71 : decode cX12_mean 71 = .ok (.sipush 4450, 3) := fq3_17 (fl_X12_mean_1 (j := 7) rfl rfl) (fl_X12_mean_1 (j := 8) rfl rfl) (fl_X12_mean_1 (j := 9) rfl rfl) (s2p rfl (bl rfl))
theorem dX12_mean_74 : decode cX12_mean 74 = .ok (.iload_n 3, 1) := fq1_29 (fl_X12_mean_1 (j := 10) rfl rfl)
theorem dX12_mean_75 : decode cX12_mean 75 = .ok (.iadd, 1) := fq1_96 (fl_X12_mean_1 (j := 11) rfl rfl)
theorem dX12_mean_76 : decode cX12_mean 76 = .ok (.aload_n 0, 1) := fq1_42 (fl_X12_mean_1 (j := 12) rfl rfl)
theorem dX12_mean_77 : decode cX12_mean 77 = .ok (.getfield 7, 3) := fq3_180 (fl_X12_mean_1 (j := 13) rfl rfl) (fl_X12_mean_1 (j := 14) rfl rfl) (fl_X12_mean_1 (j := 15) rfl rfl) rfl
theorem dX12_mean_80 : decode cX12_mean 80 = .ok (.iload_n 3, 1) := fq1_29 (fl_X12_mean_1 (j := 16) rfl rfl)
theorem dX12_mean_81 : decode cX12_mean 81 = .ok (.iaload, 1) := fq1_46 (fl_X12_mean_1 (j := 17) rfl rfl)
theorem dX12_mean_82 : decode cX12_mean 82 = .ok (.iastore, 1) := fq1_79 (fl_X12_mean_1 (j := 18) rfl rfl)
theorem dX12_mean_83 : decode cX12_mean 83 = .ok (.iinc 3 1, 3) := fq3_132 (fl_X12_mean_1 (j := 19) rfl rfl) (fl_X12_mean_1 (j := 20) rfl rfl) (fl_X12_mean_1 (j := 21) rfl rfl) rfl (s1p rfl (bl rfl))
theorem dX12_mean_86 : decode cX12_mean 86 = .ok (.goto (-26), 3) := fq3_167 (fl_X12_mean_1 (j := 22) rfl rfl) (fl_X12_mean_1 (j := 23) rfl rfl) (fl_X12_mean_1 (j := 24) rfl rfl) (by decide)
theorem dX12_mean_89 : decode cX12_mean 89 = .ok (.lconst 0, 1) := fq1_9 (fl_X12_mean_1 (j := 25) rfl rfl)
theorem dX12_mean_90 : decode cX12_mean 90 = .ok (.lstore_n 3, 1) := fq1_66 (fl_X12_mean_1 (j := 26) rfl rfl)
theorem dX12_mean_91 : decode cX12_mean 91 = .ok (.iconst 0, 1) := fq1_3 (fl_X12_mean_1 (j := 27) rfl rfl)
theorem dX12_mean_92 : decode cX12_mean 92 = .ok (.istore 5, 2) := fq2_54 (fl_X12_mean_1 (j := 28) rfl rfl) (fl_X12_mean_1 (j := 29) rfl rfl) rfl
theorem dX12_mean_94 : decode cX12_mean 94 = .ok (.iload 5, 2) := fq2_21 (fl_X12_mean_1 (j := 30) rfl rfl) (fl_X12_mean_1 (j := 31) rfl rfl) rfl
theorem dX12_mean_96 : decode cX12_mean 96 = .ok (.iload_n 2, 1) := fq1_28 (fl_X12_mean_1 (j := 32) rfl rfl)
theorem dX12_mean_97 : decode cX12_mean 97 = .ok (.if_icmp .ge 73, 3) := fq3_162 (fl_X12_mean_1 (j := 33) rfl rfl) (fl_X12_mean_1 (j := 34) rfl rfl) (fl_X12_mean_1 (j := 35) rfl rfl) (s2p rfl (bl rfl))
theorem dX12_mean_100 : decode cX12_mean 100 = .ok (.aload_n 0, 1) := fq1_42 (fl_X12_mean_1 (j := 36) rfl rfl)
theorem dX12_mean_101 : decode cX12_mean 101 = .ok (.iload_n 1, 1) := fq1_27 (fl_X12_mean_1 (j := 37) rfl rfl)
theorem dX12_mean_102 : decode cX12_mean 102 = .ok (.iload 5, 2) := fq2_21 (fl_X12_mean_1 (j := 38) rfl rfl) (fl_X12_mean_1 (j := 39) rfl rfl) rfl
theorem dX12_mean_104 : decode cX12_mean 104 = .ok (.iadd, 1) := fq1_96 (fl_X12_mean_1 (j := 40) rfl rfl)
theorem dX12_mean_105 : decode cX12_mean 105 = .ok (.invokevirtual 401, 3) := fq3_182 (fl_X12_mean_1 (j := 41) rfl rfl) (fl_X12_mean_1 (j := 42) rfl rfl) (fl_X12_mean_1 (j := 43) rfl rfl) rfl
theorem dX12_mean_108 : decode cX12_mean 108 = .ok (.lload_n 3, 1) := fq1_33 (fl_X12_mean_1 (j := 44) rfl rfl)
theorem dX12_mean_109 : decode cX12_mean 109 = .ok (.aload_n 0, 1) := fq1_42 (fl_X12_mean_1 (j := 45) rfl rfl)
theorem dX12_mean_110 : decode cX12_mean 110 = .ok (.getfield 7, 3) := fq3_180 (fl_X12_mean_1 (j := 46) rfl rfl) (fl_X12_mean_1 (j := 47) rfl rfl) (fl_X12_mean_1 (j := 48) rfl rfl) rfl
theorem dX12_mean_113 : decode cX12_mean 113 = .ok (.bipush 118, 2) := fq2_16 (fl_X12_mean_1 (j := 49) rfl rfl) (fl_X12_mean_1 (j := 50) rfl rfl) (s1p rfl (bl rfl))
theorem dX12_mean_115 : decode cX12_mean 115 = .ok (.aload_n 0, 1) := fq1_42 (fl_X12_mean_1 (j := 51) rfl rfl)
theorem dX12_mean_116 : decode cX12_mean 116 = .ok (.getfield 7, 3) := fq3_180 (fl_X12_mean_1 (j := 52) rfl rfl) (fl_X12_mean_1 (j := 53) rfl rfl) (fl_X12_mean_1 (j := 54) rfl rfl) rfl
theorem dX12_mean_119 : decode cX12_mean 119 = .ok (.iconst 3, 1) := fq1_6 (fl_X12_mean_1 (j := 55) rfl rfl)
theorem dX12_mean_120 : decode cX12_mean 120 = .ok (.iaload, 1) := fq1_46 (fl_X12_mean_1 (j := 56) rfl rfl)
theorem dX12_mean_121 : decode cX12_mean 121 = .ok (.iadd, 1) := fq1_96 (fl_X12_mean_1 (j := 57) rfl rfl)
theorem dX12_mean_122 : decode cX12_mean 122 = .ok (.iaload, 1) := fq1_46 (fl_X12_mean_1 (j := 58) rfl rfl)
theorem dX12_mean_123 : decode cX12_mean 123 = .ok (.invokestatic 409, 3) := fq3_184 (fl_X12_mean_1 (j := 59) rfl rfl) (fl_X12_mean_1 (j := 60) rfl rfl) (fl_X12_mean_1 (j := 61) rfl rfl) rfl
theorem dX12_mean_126 : decode cX12_mean 126 = .ok (.i2l, 1) := fq1_133 (fl_X12_mean_1 (j := 62) rfl rfl)
theorem dX12_mean_127 : decode cX12_mean 127 = .ok (.ladd, 1) := fq1_97 (fl_X12_mean_1 (j := 63) rfl rfl)
def fb_X12_mean_2 : List UInt8 := [0x42, 0x03, 0x36, 0x06, 0x15, 0x06, 0x11, 0x02, 0x08, 0xa2, 0x00, 0x1b, 0x2a, 0xb4, 0x00, 0x07, 0x15, 0x06, 0x2a, 0xb4, 0x00, 0x07, 0x11, 0x11, 0x62, 0x15, 0x06, 0x60, 0x2e, 0x4f, 0x84, 0x06, 0x01, 0xa7, 0xff, 0xe3, 0x84, 0x05, 0x01, 0xa7, 0xff, 0xb7, 0x2a, 0x21, 0x1c, 0x85, 0xb6, 0x01, 0x67, 0xac]
theorem fl_X12_mean_2 {p j : Nat} {b : UInt8} (e : p = 128 + j) (h : fb_X12_mean_2[j]? = some b) : cX12_mean.data.toList[p]? = some b := fq_l (n := 64) (show (cX12_mean.data.toList.drop 128).take 64 = fb_X12_mean_2 by decide +kernel) e h
theorem dX12_mean_128 : decode cX12_mean 128 = .ok (.lstore_n 3, 1) := fq1_66 (fl_X12_mean_2 (j := 0) rfl rfl)
theorem dX12_mean_129 : decode cX12_mean 129 = .ok (.iconst 0, 1) := fq1_3 (fl_X12_mean_2 (j := 1) rfl rfl)
theorem dX12_mean_130 : decode cX12_mean 130 = .ok (.istore 6, 2) := fq2_54 (fl_X12_mean_2 (j := 2) rfl rfl) (fl_X12_mean_2 (j := 3) rfl rfl) rfl
theorem dX12_mean_132 : decode cX12_mean 132 = .ok (.iload 6, 2) := fq2_21 (fl_X12_mean_2 (j := 4) rfl rfl) (fl_X12_mean_2 (j := 5) rfl rfl) rfl
theorem dX12_mean_134 : decode cX12_mean 134 = .ok (.sipush 520, 3) := fq3_17 (fl_X12_mean_2 (j := 6) rfl rfl) (fl_X12_mean_2 (j := 7) rfl rfl) (fl_X12_mean_2 (j := 8) rfl rfl) (s2p rfl (bl rfl))
theorem dX12_mean_137 : decode cX12_mean 137 = .ok (.if_icmp .ge 27, 3) := fq3_162 (fl_X12_mean_2 (j := 9) rfl rfl) (fl_X12_mean_2 (j := 10) rfl rfl) (fl_X12_mean_2 (j := 11) rfl rfl) (s2p rfl (bl rfl))
theorem dX12_mean_140 : decode cX12_mean 140 = .ok (.aload_n 0, 1) := fq1_42 (fl_X12_mean_2 (j := 12) rfl rfl)
theorem dX12_mean_141 : decode cX12_mean 141 = .ok (.getfield 7, 3) := fq3_180 (fl_X12_mean_2 (j := 13) rfl rfl) (fl_X12_mean_2 (j := 14) rfl rfl) (fl_X12_mean_2 (j := 15) rfl rfl) rfl
theorem dX12_mean_144 : decode cX12_mean 144 = .ok (.iload 6, 2) := fq2_21 (fl_X12_mean_2 (j := 16) rfl rfl) (fl_X12_mean_2 (j := 17) rfl rfl) rfl
theorem dX12_mean_146 : decode cX12_mean 146 = .ok (.aload_n 0, 1) := fq1_42 (fl_X12_mean_2 (j := 18) rfl rfl)
theorem dX12_mean_147 : decode cX12_mean 147 = .ok (.getfield 7, 3) := fq3_180 (fl_X12_mean_2 (j := 19) rfl rfl) (fl_X12_mean_2 (j := 20) rfl rfl) (fl_X12_mean_2 (j := 21) rfl rfl) rfl
theorem dX12_mean_150 : decode cX12_mean 150 = .ok (.sipush 4450, 3) := fq3_17 (fl_X12_mean_2 (j := 22) rfl rfl) (fl_X12_mean_2 (j := 23) rfl rfl) (fl_X12_mean_2 (j := 24) rfl rfl) (s2p rfl (bl rfl))
theorem dX12_mean_153 : decode cX12_mean 153 = .ok (.iload 6, 2) := fq2_21 (fl_X12_mean_2 (j := 25) rfl rfl) (fl_X12_mean_2 (j := 26) rfl rfl) rfl
theorem dX12_mean_155 : decode cX12_mean 155 = .ok (.iadd, 1) := fq1_96 (fl_X12_mean_2 (j := 27) rfl rfl)
theorem dX12_mean_156 : decode cX12_mean 156 = .ok (.iaload, 1) := fq1_46 (fl_X12_mean_2 (j := 28) rfl rfl)
theorem dX12_mean_157 : decode cX12_mean 157 = .ok (.iastore, 1) := fq1_79 (fl_X12_mean_2 (j := 29) rfl rfl)
theorem dX12_mean_158 : decode cX12_mean 158 = .ok (.iinc 6 1, 3) := fq3_132 (fl_X12_mean_2 (j := 30) rfl rfl) (fl_X12_mean_2 (j := 31) rfl rfl) (fl_X12_mean_2 (j := 32) rfl rfl) rfl (s1p rfl (bl rfl))
theorem dX12_mean_161 : decode cX12_mean 161 = .ok (.goto (-29), 3) := fq3_167 (fl_X12_mean_2 (j := 33) rfl rfl) (fl_X12_mean_2 (j := 34) rfl rfl) (fl_X12_mean_2 (j := 35) rfl rfl) (by decide)
theorem dX12_mean_164 : decode cX12_mean 164 = .ok (.iinc 5 1, 3) := fq3_132 (fl_X12_mean_2 (j := 36) rfl rfl) (fl_X12_mean_2 (j := 37) rfl rfl) (fl_X12_mean_2 (j := 38) rfl rfl) rfl (s1p rfl (bl rfl))
theorem dX12_mean_167 : decode cX12_mean 167 = .ok (.goto (-73), 3) := fq3_167 (fl_X12_mean_2 (j := 39) rfl rfl) (fl_X12_mean_2 (j := 40) rfl rfl) (fl_X12_mean_2 (j := 41) rfl rfl) (by decide)
theorem dX12_mean_170 : decode cX12_mean 170 = .ok (.aload_n 0, 1) := fq1_42 (fl_X12_mean_2 (j := 42) rfl rfl)
theorem dX12_mean_171 : decode cX12_mean 171 = .ok (.lload_n 3, 1) := fq1_33 (fl_X12_mean_2 (j := 43) rfl rfl)
theorem dX12_mean_172 : decode cX12_mean 172 = .ok (.iload_n 2, 1) := fq1_28 (fl_X12_mean_2 (j := 44) rfl rfl)
theorem dX12_mean_173 : decode cX12_mean 173 = .ok (.i2l, 1) := fq1_133 (fl_X12_mean_2 (j := 45) rfl rfl)
theorem dX12_mean_174 : decode cX12_mean 174 = .ok (.invokevirtual 359, 3) := fq3_182 (fl_X12_mean_2 (j := 46) rfl rfl) (fl_X12_mean_2 (j := 47) rfl rfl) (fl_X12_mean_2 (j := 48) rfl rfl) rfl
theorem dX12_mean_177 : decode cX12_mean 177 = .ok (.ireturn, 1) := fq1_172 (fl_X12_mean_2 (j := 49) rfl rfl)
end

section
theorem M0.back {f h : Nat → Int32} (hf : M0 f) (hg : ∀ e : Int, 0 ≤ e → e < 520 → gz h e = gz f e) (h2 : ∀ e : Int, 520 ≤ e → e < 4450 → gz h e = gz f e) : M0 h :=
  M0.like (fun e a b c => by
    rcases b with b | b
    · exact hg e a (by omega)
    · exact h2 e b (by omega)) hf
set_option maxHeartbeats 4000000 in
set_option maxRecDepth 100000 in
theorem q_mean (l : Launch) (D : va_G) (k : Nat → ClassId) (hm : Nat) (Ma : Nat) (Mn : Nat) (Ms : Nat) (My : Nat) (Mt : Nat) (Mp : Nat) (Mx : Nat) (Mo : Nat) (Mk : Nat) (Ml : Nat) (Mb : Nat) (Mh : Nat) (Mc : Nat) (Mz : Nat) (Mr : Nat) (Mq : Nat) (Mst : Int) (Mtd : Int) (Msz : Int) (Mtk : Int) (Mfr : Int) (Men : Int) (Mva : Int) (Mfk : Int) (Mfp : Int) (Mfs : Int) (Mse : Int) (Mlt : Int) (Mdp : Int) (Mct : Int) (Mdr : Int) (Mrs : Int) (Mit : Int) (Mmk : Int) (Mtp : Int64) (Mbt : Int64) (Af : Nat → Int32) (Kf : Nat → Int32) (Lf : Nat → Int32) (Bf : Nat → Int32) (Hf : Nat → Int32) (Zf : Nat → Int32) (Rf : Nat → Int32) (x1 : Int) (x2 : Int) (hM : M0 Af) (rgH : rgI Hf 0 1000000 120) (hdr : 0 ≤ Mdr ∧ Mdr ≤ 65535) (h9x1 : -2147483648 ≤ x1 ∧ x1 < 2147483648) (h9x2 : -2147483648 ≤ x2 ∧ x2 < 2147483648) : WD (σ := ((Int × Int × Int × Int) × (Int64 × Int64 × Int64) × ((Nat → Int32) × (Nat → Int32) × (Nat → Int32) × (Nat → Int32) × (Nat → Int32) × (Nat → Int32) × (Nat → Int32)) × (Unit))) l yX12_mean cX12_mean 7 (some .boolean) 10 0 0 D k [.ref hm, .int (iZ x1), .int (iZ x2)] [(hm, .inr (12, [.ref Ma, .ref Mn, .int (iZ Mst), .long Mtp, .long Mbt, .ref Ms, .ref My, .ref Mt, .ref Mp, .ref Mx, .int (iZ Mtd), .int (iZ Msz), .int (iZ Mtk), .int (iZ Mfr), .int (iZ Men), .int (iZ Mva), .int (iZ Mfk), .int (iZ Mfp), .int (iZ Mfs), .int (iZ Mse), .int (iZ Mlt), .ref Mo, .int (iZ Mdp), .int (iZ Mct), .ref Mk, .ref Ml, .ref Mb, .ref Mh, .ref Mc, .int (iZ Mdr), .int (iZ Mrs), .ref Mz, .ref Mr, .ref Mq, .int (iZ Mit), .int (iZ Mmk)])), (Ma, .inl (k 1, 5340, .inl Af)), (Mk, .inl (k 1, 6, .inl Kf)), (Ml, .inl (k 1, 6, .inl Lf)), (Mb, .inl (k 1, 6, .inl Bf)), (Mh, .inl (k 1, 120, .inl Hf)), (Mz, .inl (k 1, 80, .inl Zf)), (Mr, .inl (k 1, 5, .inl Rf))] (fun u => some (.int (iZ u.1.1))) (fun u => (M0 u.2.2.1.1) ∧ (∀ e : Int, 520 ≤ e → e < 4450 → gz u.2.2.1.1 e = gz Af e) ∧ (0 ≤ u.1.2.2.1 ∧ u.1.2.2.1 ≤ 65535) ∧ (rgI u.2.2.1.2.2.2.2.1 0 1000000 120) ∧ (∀ e : Int, 0 ≤ e → e < 520 → gz u.2.2.1.1 e = gz Af e)) (fun u => [(hm, .inr (12, [.ref Ma, .ref Mn, .int (iZ u.1.2.1), .long u.2.1.2.1, .long u.2.1.2.2, .ref Ms, .ref My, .ref Mt, .ref Mp, .ref Mx, .int (iZ Mtd), .int (iZ Msz), .int (iZ Mtk), .int (iZ Mfr), .int (iZ Men), .int (iZ Mva), .int (iZ Mfk), .int (iZ Mfp), .int (iZ Mfs), .int (iZ Mse), .int (iZ Mlt), .ref Mo, .int (iZ Mdp), .int (iZ Mct), .ref Mk, .ref Ml, .ref Mb, .ref Mh, .ref Mc, .int (iZ u.1.2.2.1), .int (iZ u.1.2.2.2), .ref Mz, .ref Mr, .ref Mq, .int (iZ Mit), .int (iZ Mmk)])), (Ma, .inl (k 1, 5340, .inl u.2.2.1.1)), (Mk, .inl (k 1, 6, .inl u.2.2.1.2.1)), (Ml, .inl (k 1, 6, .inl u.2.2.1.2.2.1)), (Mb, .inl (k 1, 6, .inl u.2.2.1.2.2.2.1)), (Mh, .inl (k 1, 120, .inl u.2.2.1.2.2.2.2.1)), (Mz, .inl (k 1, 80, .inl u.2.2.1.2.2.2.2.2.1)), (Mr, .inl (k 1, 5, .inl u.2.2.1.2.2.2.2.2.2))]) := by
  refine MW (by decide) (Nat.le_of_ble_eq_true rfl) (fun p e s m below meth c ls A hx hb hml hr hlocks hin hts hown hKK hP hD hS hA hl => ?_)
  have hK := hKK.1
  have hl : lv_has ls 7 [(0, .ref hm), (1, .int (iZ x1)), (2, .int (iZ x2))] := hl
  obtain ⟨m0, m1, m3, m4, m5, mF, mO, mS⟩ := id hM
  refine lv_iload_n hx hb dX12_mean_0 rfl (lv_at hl 1 rfl) ?_
  refine lv_i2l (v := (iZ x1).toInt64) hx hb dX12_mean_1 rfl ?_
  refine lv_lconst (v := 0) hx hb dX12_mean_2 rfl ?_
  refine lv_ldc2 (own := RX12) (v := 9999) hx hb hown (hts _ qk_X12_399) dX12_mean_3 ?_
  refine CPS (As := [.long ((iZ x1).toInt64), .long 0, .long 9999]) (rest := []) hx hb hml hown hts hKK (hP.sub (ws' := []) [] rfl) (m_isFrom l D k ((iZ x1).toInt64) 0 9999) ci_X12_isFrom qm_X12_295 ⟨Nat.le_of_ble_eq_true rfl, Nat.le_of_ble_eq_true rfl⟩ ⟨Nat.le_of_ble_eq_true rfl, Nat.le_of_ble_eq_true rfl⟩ rfl hl.1 rfl (Nat.le_of_ble_eq_true rfl) dX12_mean_6 (fun z_1 hz_1 => ?_)
  have tt_2_z_1 := tI64 (z := x1) ⟨by omega, by omega⟩
  have tt_3_z_1 := show (0 : Int64).toInt = 0 from (by decide)
  have tt_4_z_1 := show (9999 : Int64).toInt = 9999 from (by decide)
  rcases hz_1 with ⟨qz_1, hz_1⟩ | ⟨qz_1, hz_1⟩
  ·
    subst qz_1
    refine lv_if_eq (tgt := 35) hx hb dX12_mean_9 rfl (fun c => absurd c (by decide)) (fun _ => ?_)
    refine lv_iload_n hx hb dX12_mean_12 rfl (lv_at hl 2 rfl) ?_
    refine lv_i2l (v := (iZ x2).toInt64) hx hb dX12_mean_13 rfl ?_
    refine lv_lconst (v := 1) hx hb dX12_mean_14 rfl ?_
    refine lv_ldc2 (own := RX12) (v := 10) hx hb hown (hts _ qk_X12_407) dX12_mean_15 ?_
    refine CPS (As := [.long ((iZ x2).toInt64), .long 1, .long 10]) (rest := []) hx hb hml hown hts hKK (hP.sub (ws' := []) [] rfl) (m_isFrom l D k ((iZ x2).toInt64) 1 10) ci_X12_isFrom qm_X12_295 ⟨Nat.le_of_ble_eq_true rfl, Nat.le_of_ble_eq_true rfl⟩ ⟨Nat.le_of_ble_eq_true rfl, Nat.le_of_ble_eq_true rfl⟩ rfl hl.1 rfl (Nat.le_of_ble_eq_true rfl) dX12_mean_18 (fun z_6 hz_6 => ?_)
    have tt_7_z_6 := tI64 (z := x2) ⟨by omega, by omega⟩
    have tt_8_z_6 := show (1 : Int64).toInt = 1 from (by decide)
    have tt_9_z_6 := show (10 : Int64).toInt = 10 from (by decide)
    rcases hz_6 with ⟨qz_6, hz_6⟩ | ⟨qz_6, hz_6⟩
    ·
      subst qz_6
      refine lv_if_eq (tgt := 35) hx hb dX12_mean_21 rfl (fun c => absurd c (by decide)) (fun _ => ?_)
      refine lv_iload_n hx hb dX12_mean_24 rfl (lv_at hl 1 rfl) ?_
      refine lv_iload_n hx hb dX12_mean_25 rfl (lv_at hl 2 rfl) ?_
      refine lv_iadd hx hb dX12_mean_26 ?_
      refine lv_topi (fun x_11 ex_11 => ?_)
      obtain rfl : x_11 = iZ (x1 + x2) := ex_11.trans (iZ_add x1 x2)
      refine lv_iconst (v := iZ 1) hx hb dX12_mean_27 rfl ?_
      refine lv_isub hx hb dX12_mean_28 ?_
      refine lv_topi (fun x_12 ex_12 => ?_)
      obtain rfl : x_12 = iZ ((x1 + x2) - 1) := ex_12.trans (iZ_sub (x1 + x2) 1)
      refine lv_sipush (v := iZ 9999) hx hb dX12_mean_29 sip_9999 ?_
      refine lv_icmp_le (tgt := 41) hx hb dX12_mean_32 rfl (fun c_13 => ?_) (fun c_13 => ?_)
      ·
        have c_13 := (zle (x := iZ ((x1 + x2) - 1)) (y := iZ 9999) rfl rfl ⟨by omega, by omega⟩ wn_9999).mp c_13
        refine lv_aload_n hx hb dX12_mean_41 rfl (lv_at hl 0 rfl) ?_
        refine va_get (D := D) (ci := 12) (v := .ref Ma) (C := RX12) (T := TX12) (N := 36) hx hb hts iX12 hown hK hP 0 rfl rfl 0 (bl rfl) (hts _ qf_X12_7) (fun _ h => h) rfl dX12_mean_42 ?_
        refine lv_iconst (v := iZ 5) hx hb dX12_mean_45 rfl ?_
        refine va_iald hx hb hK hP 1 1 rfl rfl (zin (e := 5) (n := 5340) ⟨by omega, by omega⟩ (bl rfl)) dX12_mean_46 ?_
        refine lv_topi (fun x_14 ex_14 => ?_)
        obtain rfl : x_14 = iZ (gz Af 5) := ex_14.trans (gz_eq ⟨by omega, by omega⟩)
        have h_15 := gz_rg Af 5
        refine lv_iconst (v := iZ (-1)) hx hb dX12_mean_47 rfl ?_
        refine lv_icmp_ne (tgt := 58) hx hb dX12_mean_48 rfl (fun c_16 => ?_) (fun c_16 => ?_)
        ·
          have c_16 := mt (zeq (x := iZ (gz Af 5)) (y := iZ (-1)) rfl rfl (gz_rg Af 5) wn_m1).mpr c_16
          refine lv_iconst (v := iZ 0) hx hb dX12_mean_58 rfl ?_
          refine lv_istore_n (lv' := [(3, .int (iZ 0)), (0, .ref hm), (1, .int (iZ x1)), (2, .int (iZ x2))]) hx hb dX12_mean_59 rfl hl (bl rfl) rfl (fun ls hl => ?_)
          have HL60 : ∀ (fu : Nat) (v3_60 : Int) (Afq60 : Nat → Int32) (H : Heap) (locs : List Loc) (ls : Array Slot), ((519) + 2 - v3_60) < (fu : Int) → ((0 ≤ v3_60 ∧ v3_60 ≤ (519) + 1)) → (∀ e : Int, 0 ≤ e → e < v3_60 → gz Afq60 (4450 + e) = gz Af e) → (∀ e : Int, 0 ≤ e → e < 4450 → gz Afq60 e = gz Af e) → va_P D vwCl [(hm, .inr (12, [.ref Ma, .ref Mn, .int (iZ Mst), .long Mtp, .long Mbt, .ref Ms, .ref My, .ref Mt, .ref Mp, .ref Mx, .int (iZ Mtd), .int (iZ Msz), .int (iZ Mtk), .int (iZ Mfr), .int (iZ Men), .int (iZ Mva), .int (iZ Mfk), .int (iZ Mfp), .int (iZ Mfs), .int (iZ Mse), .int (iZ Mlt), .ref Mo, .int (iZ Mdp), .int (iZ Mct), .ref Mk, .ref Ml, .ref Mb, .ref Mh, .ref Mc, .int (iZ Mdr), .int (iZ Mrs), .ref Mz, .ref Mr, .ref Mq, .int (iZ Mit), .int (iZ Mmk)])), (Ma, .inl (k 1, 5340, .inl Afq60)), (Mk, .inl (k 1, 6, .inl Kf)), (Ml, .inl (k 1, 6, .inl Lf)), (Mb, .inl (k 1, 6, .inl Bf)), (Mh, .inl (k 1, 120, .inl Hf)), (Mz, .inl (k 1, 80, .inl Zf)), (Mr, .inl (k 1, 5, .inl Rf))] H → va_D A [(hm, .inr (12, [.ref Ma, .ref Mn, .int (iZ Mst), .long Mtp, .long Mbt, .ref Ms, .ref My, .ref Mt, .ref Mp, .ref Mx, .int (iZ Mtd), .int (iZ Msz), .int (iZ Mtk), .int (iZ Mfr), .int (iZ Men), .int (iZ Mva), .int (iZ Mfk), .int (iZ Mfp), .int (iZ Mfs), .int (iZ Mse), .int (iZ Mlt), .ref Mo, .int (iZ Mdp), .int (iZ Mct), .ref Mk, .ref Ml, .ref Mb, .ref Mh, .ref Mc, .int (iZ Mdr), .int (iZ Mrs), .ref Mz, .ref Mr, .ref Mq, .int (iZ Mit), .int (iZ Mmk)])), (Ma, .inl (k 1, 5340, .inl Afq60)), (Mk, .inl (k 1, 6, .inl Kf)), (Ml, .inl (k 1, 6, .inl Lf)), (Mb, .inl (k 1, 6, .inl Bf)), (Mh, .inl (k 1, 120, .inl Hf)), (Mz, .inl (k 1, 80, .inl Zf)), (Mr, .inl (k 1, 5, .inl Rf))] → va_S A s.heap H locs → lv_has ls 7 [(3, .int (iZ v3_60)), (0, .ref hm), (1, .int (iZ x1)), (2, .int (iZ x2))] → W p l e (rj 10 0 0) s m [.ref hm, .int (iZ x1), .int (iZ x2)].toArray below meth c H locs 0 0 (MQ below (QW (σ := ((Int × Int × Int × Int) × (Int64 × Int64 × Int64) × ((Nat → Int32) × (Nat → Int32) × (Nat → Int32) × (Nat → Int32) × (Nat → Int32) × (Nat → Int32) × (Nat → Int32)) × (Unit))) (fun u => some (.int (iZ u.1.1))) (fun u => (M0 u.2.2.1.1) ∧ (∀ e : Int, 520 ≤ e → e < 4450 → gz u.2.2.1.1 e = gz Af e) ∧ (0 ≤ u.1.2.2.1 ∧ u.1.2.2.1 ≤ 65535) ∧ (rgI u.2.2.1.2.2.2.2.1 0 1000000 120) ∧ (∀ e : Int, 0 ≤ e → e < 520 → gz u.2.2.1.1 e = gz Af e)) (fun u => [(hm, .inr (12, [.ref Ma, .ref Mn, .int (iZ u.1.2.1), .long u.2.1.2.1, .long u.2.1.2.2, .ref Ms, .ref My, .ref Mt, .ref Mp, .ref Mx, .int (iZ Mtd), .int (iZ Msz), .int (iZ Mtk), .int (iZ Mfr), .int (iZ Men), .int (iZ Mva), .int (iZ Mfk), .int (iZ Mfp), .int (iZ Mfs), .int (iZ Mse), .int (iZ Mlt), .ref Mo, .int (iZ Mdp), .int (iZ Mct), .ref Mk, .ref Ml, .ref Mb, .ref Mh, .ref Mc, .int (iZ u.1.2.2.1), .int (iZ u.1.2.2.2), .ref Mz, .ref Mr, .ref Mq, .int (iZ Mit), .int (iZ Mmk)])), (Ma, .inl (k 1, 5340, .inl u.2.2.1.1)), (Mk, .inl (k 1, 6, .inl u.2.2.1.2.1)), (Ml, .inl (k 1, 6, .inl u.2.2.1.2.2.1)), (Mb, .inl (k 1, 6, .inl u.2.2.1.2.2.2.1)), (Mh, .inl (k 1, 120, .inl u.2.2.1.2.2.2.2.1)), (Mz, .inl (k 1, 80, .inl u.2.2.1.2.2.2.2.2.1)), (Mr, .inl (k 1, 5, .inl u.2.2.1.2.2.2.2.2.2))]) D A) [.ref hm, .int (iZ x1), .int (iZ x2)].toArray s 0 0 A) (F0 m 60 ls []) := by
            intro fu
            induction fu with
            | zero => intro v3_60 Afq60 H locs ls hμ60 hi60 hw1 hk1 hP hD hS hl; exact absurd hμ60 (by omega)
            | succ fu ih60 =>
              intro v3_60 Afq60 H locs ls hμ60 hi60 hw1 hk1 hP hD hS hl
              refine lv_iload_n hx hb dX12_mean_60 rfl (lv_at hl 0 rfl) ?_
              refine lv_sipush (v := iZ 520) hx hb dX12_mean_61 sip_520 ?_
              refine lv_icmp_ge (tgt := 89) hx hb dX12_mean_64 rfl (fun c_17 => ?_) (fun c_17 => ?_)
              ·
                have c_17 := (zle (x := iZ 520) (y := iZ v3_60) rfl rfl wn_520 ⟨by omega, by omega⟩).mp c_17
                obtain rfl : v3_60 = 520 := by omega
                have hMw : M0 Afq60 := M0.back hM (fun e h1 h2 => hk1 e h1 (by omega)) (fun e h1 h2 => hk1 e (by omega) h2)
                obtain ⟨m0w, m1w, m3w, m4w, m5w, mFw, mOw, mSw⟩ := id hMw
                refine lv_lconst (v := 0) hx hb dX12_mean_89 rfl ?_
                refine lv_lstore_n (lv' := [(3, .long 0), (0, .ref hm), (1, .int (iZ x1)), (2, .int (iZ x2))]) hx hb dX12_mean_90 rfl hl (bl rfl) rfl (fun ls hl => ?_)
                refine lv_iconst (v := iZ 0) hx hb dX12_mean_91 rfl ?_
                refine lv_istore (lv' := [(5, .int (iZ 0)), (3, .long 0), (0, .ref hm), (1, .int (iZ x1)), (2, .int (iZ x2))]) hx hb dX12_mean_92 hl (bl rfl) rfl (fun ls hl => ?_)
                have HL94 : ∀ (fu : Nat) (v3_94 : Int64) (v5_94 : Int) (Mdrq94 : Int) (Mrsq94 : Int) (Afq94 : Nat → Int32) (Kfq94 : Nat → Int32) (Lfq94 : Nat → Int32) (Bfq94 : Nat → Int32) (Hfq94 : Nat → Int32) (Zfq94 : Nat → Int32) (Rfq94 : Nat → Int32) (H : Heap) (locs : List Loc) (ls : Array Slot), ((x2) + 2 - v5_94) < (fu : Int) → ((0 ≤ v5_94 ∧ v5_94 ≤ (x2) + 1)) → (M0 Afq94) → (∀ e : Int, 0 ≤ e → e < 520 → gz Afq94 (4450 + e) = gz Af e) → (∀ e : Int, 520 ≤ e → e < 4450 → gz Afq94 e = gz Af e) → (0 ≤ Mdrq94 ∧ Mdrq94 ≤ 65535) → (gz Afq94 0 = gz Af 0) → (rgI Hfq94 0 1000000 120) → (∀ e : Int, 0 ≤ e → e < 520 → gz Afq94 e = gz Af e) → va_P D vwCl [(hm, .inr (12, [.ref Ma, .ref Mn, .int (iZ Mst), .long Mtp, .long Mbt, .ref Ms, .ref My, .ref Mt, .ref Mp, .ref Mx, .int (iZ Mtd), .int (iZ Msz), .int (iZ Mtk), .int (iZ Mfr), .int (iZ Men), .int (iZ Mva), .int (iZ Mfk), .int (iZ Mfp), .int (iZ Mfs), .int (iZ Mse), .int (iZ Mlt), .ref Mo, .int (iZ Mdp), .int (iZ Mct), .ref Mk, .ref Ml, .ref Mb, .ref Mh, .ref Mc, .int (iZ Mdrq94), .int (iZ Mrsq94), .ref Mz, .ref Mr, .ref Mq, .int (iZ Mit), .int (iZ Mmk)])), (Ma, .inl (k 1, 5340, .inl Afq94)), (Mk, .inl (k 1, 6, .inl Kfq94)), (Ml, .inl (k 1, 6, .inl Lfq94)), (Mb, .inl (k 1, 6, .inl Bfq94)), (Mh, .inl (k 1, 120, .inl Hfq94)), (Mz, .inl (k 1, 80, .inl Zfq94)), (Mr, .inl (k 1, 5, .inl Rfq94))] H → va_D A [(hm, .inr (12, [.ref Ma, .ref Mn, .int (iZ Mst), .long Mtp, .long Mbt, .ref Ms, .ref My, .ref Mt, .ref Mp, .ref Mx, .int (iZ Mtd), .int (iZ Msz), .int (iZ Mtk), .int (iZ Mfr), .int (iZ Men), .int (iZ Mva), .int (iZ Mfk), .int (iZ Mfp), .int (iZ Mfs), .int (iZ Mse), .int (iZ Mlt), .ref Mo, .int (iZ Mdp), .int (iZ Mct), .ref Mk, .ref Ml, .ref Mb, .ref Mh, .ref Mc, .int (iZ Mdrq94), .int (iZ Mrsq94), .ref Mz, .ref Mr, .ref Mq, .int (iZ Mit), .int (iZ Mmk)])), (Ma, .inl (k 1, 5340, .inl Afq94)), (Mk, .inl (k 1, 6, .inl Kfq94)), (Ml, .inl (k 1, 6, .inl Lfq94)), (Mb, .inl (k 1, 6, .inl Bfq94)), (Mh, .inl (k 1, 120, .inl Hfq94)), (Mz, .inl (k 1, 80, .inl Zfq94)), (Mr, .inl (k 1, 5, .inl Rfq94))] → va_S A s.heap H locs → lv_has ls 7 [(5, .int (iZ v5_94)), (3, .long v3_94), (0, .ref hm), (1, .int (iZ x1)), (2, .int (iZ x2))] → W p l e (rj 10 0 0) s m [.ref hm, .int (iZ x1), .int (iZ x2)].toArray below meth c H locs 0 0 (MQ below (QW (σ := ((Int × Int × Int × Int) × (Int64 × Int64 × Int64) × ((Nat → Int32) × (Nat → Int32) × (Nat → Int32) × (Nat → Int32) × (Nat → Int32) × (Nat → Int32) × (Nat → Int32)) × (Unit))) (fun u => some (.int (iZ u.1.1))) (fun u => (M0 u.2.2.1.1) ∧ (∀ e : Int, 520 ≤ e → e < 4450 → gz u.2.2.1.1 e = gz Af e) ∧ (0 ≤ u.1.2.2.1 ∧ u.1.2.2.1 ≤ 65535) ∧ (rgI u.2.2.1.2.2.2.2.1 0 1000000 120) ∧ (∀ e : Int, 0 ≤ e → e < 520 → gz u.2.2.1.1 e = gz Af e)) (fun u => [(hm, .inr (12, [.ref Ma, .ref Mn, .int (iZ u.1.2.1), .long u.2.1.2.1, .long u.2.1.2.2, .ref Ms, .ref My, .ref Mt, .ref Mp, .ref Mx, .int (iZ Mtd), .int (iZ Msz), .int (iZ Mtk), .int (iZ Mfr), .int (iZ Men), .int (iZ Mva), .int (iZ Mfk), .int (iZ Mfp), .int (iZ Mfs), .int (iZ Mse), .int (iZ Mlt), .ref Mo, .int (iZ Mdp), .int (iZ Mct), .ref Mk, .ref Ml, .ref Mb, .ref Mh, .ref Mc, .int (iZ u.1.2.2.1), .int (iZ u.1.2.2.2), .ref Mz, .ref Mr, .ref Mq, .int (iZ Mit), .int (iZ Mmk)])), (Ma, .inl (k 1, 5340, .inl u.2.2.1.1)), (Mk, .inl (k 1, 6, .inl u.2.2.1.2.1)), (Ml, .inl (k 1, 6, .inl u.2.2.1.2.2.1)), (Mb, .inl (k 1, 6, .inl u.2.2.1.2.2.2.1)), (Mh, .inl (k 1, 120, .inl u.2.2.1.2.2.2.2.1)), (Mz, .inl (k 1, 80, .inl u.2.2.1.2.2.2.2.2.1)), (Mr, .inl (k 1, 5, .inl u.2.2.1.2.2.2.2.2.2))]) D A) [.ref hm, .int (iZ x1), .int (iZ x2)].toArray s 0 0 A) (F0 m 94 ls []) := by
                  intro fu
                  induction fu with
                  | zero => intro v3_94 v5_94 Mdrq94 Mrsq94 Afq94 Kfq94 Lfq94 Bfq94 Hfq94 Zfq94 Rfq94 H locs ls hμ94 hi94 hM94 hO1 hO2 hdr2 hF94 rgh2 hO3 hP hD hS hl; exact absurd hμ94 (by omega)
                  | succ fu ih94 =>
                    intro v3_94 v5_94 Mdrq94 Mrsq94 Afq94 Kfq94 Lfq94 Bfq94 Hfq94 Zfq94 Rfq94 H locs ls hμ94 hi94 hM94 hO1 hO2 hdr2 hF94 rgh2 hO3 hP hD hS hl
                    obtain ⟨m0o, m1o, m3o, m4o, m5o, mFo, mOo, mSo⟩ := id hM94
                    refine lv_iload hx hb dX12_mean_94 (lv_at hl 0 rfl) ?_
                    refine lv_iload_n hx hb dX12_mean_96 rfl (lv_at hl 4 rfl) ?_
                    refine lv_icmp_ge (tgt := 170) hx hb dX12_mean_97 rfl (fun c_18 => ?_) (fun c_18 => ?_)
                    ·
                      have c_18 := (zle (x := iZ x2) (y := iZ v5_94) rfl rfl ⟨by omega, by omega⟩ ⟨by omega, by omega⟩).mp c_18
                      refine lv_aload_n hx hb dX12_mean_170 rfl (lv_at hl 2 rfl) ?_
                      refine lv_lload_n hx hb dX12_mean_171 rfl (lv_at hl 1 rfl) ?_
                      refine lv_iload_n hx hb dX12_mean_172 rfl (lv_at hl 4 rfl) ?_
                      refine lv_i2l (v := (iZ x2).toInt64) hx hb dX12_mean_173 rfl ?_
                      refine CWV (As := [.long v3_94, .long ((iZ x2).toInt64)]) (rest := []) (wc := _) (wr := [(Ma, .inl (k 1, 5340, .inl Afq94)), (Mk, .inl (k 1, 6, .inl Kfq94)), (Ml, .inl (k 1, 6, .inl Lfq94)), (Mb, .inl (k 1, 6, .inl Bfq94)), (Mh, .inl (k 1, 120, .inl Hfq94)), (Mz, .inl (k 1, 80, .inl Zfq94)), (Mr, .inl (k 1, 5, .inl Rfq94))]) hx hb hml hown hts hKK hP hD hS hA (m_tellsBy l D k hm Ma Mn Ms My Mt Mp Mx Mo Mk Ml Mb Mh Mc Mz Mr Mq Mst Mtd Msz Mtk Mfr Men Mva Mfk Mfp Mfs Mse Mlt Mdp Mct Mdrq94 Mrsq94 Mit Mmk Mtp Mbt v3_94 ((iZ x2).toInt64) (by have t9 := tI64 (z := x2) ⟨by omega, by omega⟩; omega)) ci_X12_tellsBy qm_X12_359 ⟨Nat.le_of_ble_eq_true rfl, Nat.le_of_ble_eq_true rfl⟩ ⟨Nat.le_of_ble_eq_true rfl, Nat.le_of_ble_eq_true rfl⟩ [0] [1, 2, 3, 4, 5, 6, 7] rfl rfl rfl rfl rfl (dj rfl) 0 rfl rfl rfl hl.1 rfl (Nat.le_of_ble_eq_true rfl) dX12_mean_174 (fun u_19 H locs hφ hP hD hS => ?_)
                      refine W.eq (g2 := F0 m 177 ls [.int (iZ 1)]) rfl ?_
                      exact EWz hx hb hr hlocks hS ((1, u_19.1.2, Mdrq94, Mrsq94), (0, u_19.2.1.2.1, u_19.2.1.2.2), (Afq94, Kfq94, Lfq94, Bfq94, Hfq94, Zfq94, Rfq94), ()) rfl rfl ⟨(show M0 Afq94 from hM94), (show ∀ e : Int, 520 ≤ e → e < 4450 → gz Afq94 e = gz Af e from hO2), (show 0 ≤ Mdrq94 ∧ Mdrq94 ≤ 65535 from (by omega)), (show rgI Hfq94 0 1000000 120 from rgh2), (show ∀ e : Int, 0 ≤ e → e < 520 → gz Afq94 e = gz Af e from hO3)⟩ (hP.sub [7, 0, 1, 2, 3, 4, 5, 6] rfl) (hD.sub [7, 0, 1, 2, 3, 4, 5, 6] rfl rfl) dX12_mean_177
                    ·
                      have c_18 := mt (zle (x := iZ x2) (y := iZ v5_94) rfl rfl ⟨by omega, by omega⟩ ⟨by omega, by omega⟩).mpr c_18
                      refine lv_aload_n hx hb dX12_mean_100 rfl (lv_at hl 2 rfl) ?_
                      refine lv_iload_n hx hb dX12_mean_101 rfl (lv_at hl 3 rfl) ?_
                      refine lv_iload hx hb dX12_mean_102 (lv_at hl 0 rfl) ?_
                      refine lv_iadd hx hb dX12_mean_104 ?_
                      refine lv_topi (fun x_20 ex_20 => ?_)
                      obtain rfl : x_20 = iZ (x1 + v5_94) := ex_20.trans (iZ_add x1 v5_94)
                      refine CWV (As := [.int (iZ (x1 + v5_94))]) (rest := []) (wc := _) (wr := []) hx hb hml hown hts hKK hP hD hS hA (m_lives l D k hm Ma Mn Ms My Mt Mp Mx Mo Mk Ml Mb Mh Mc Mz Mr Mq Mst Mtd Msz Mtk Mfr Men Mva Mfk Mfp Mfs Mse Mlt Mdp Mct Mdrq94 Mrsq94 Mit Mmk Mtp Mbt Afq94 Kfq94 Lfq94 Bfq94 Hfq94 Zfq94 Rfq94 (x1 + v5_94) hM94 ⟨by omega, by omega⟩ rgh2) ci_X12_lives qm_X12_401 ⟨Nat.le_of_ble_eq_true rfl, Nat.le_of_ble_eq_true rfl⟩ ⟨Nat.le_of_ble_eq_true rfl, Nat.le_of_ble_eq_true rfl⟩ [0, 1, 2, 3, 4, 5, 6, 7] [] rfl rfl rfl rfl rfl (dj rfl) 0 rfl rfl rfl hl.1 rfl (Nat.le_of_ble_eq_true rfl) dX12_mean_105 (fun u_21 H locs hφ hP hD hS => ?_)
                      obtain ⟨p_22, p_23, p_24, p_25, p_26⟩ : (M0 u_21.2.2.1.1) ∧ (FR u_21.2.2.1.1 Afq94) ∧ (0 ≤ u_21.1.2.1 ∧ u_21.1.2.1 ≤ 65535) ∧ (rgI u_21.2.2.1.2.2.2.2.1 0 1000000 120) ∧ (0 ≤ u_21.1.2.2 ∧ u_21.1.2.2 ≤ 200) := hφ
                      obtain ⟨m0m_27, m1m_27, m3m_27, m4m_27, m5m_27, mFm_27, mOm_27, mSm_27⟩ := id p_22
                      have frm_27 := FR.z p_23
                      refine W.eq (g2 := F0 m 108 ls []) rfl ?_
                      refine lv_lload_n hx hb dX12_mean_108 rfl (lv_at hl 1 rfl) ?_
                      refine lv_aload_n hx hb dX12_mean_109 rfl (lv_at hl 2 rfl) ?_
                      refine va_get (D := D) (ci := 12) (v := .ref Ma) (C := RX12) (T := TX12) (N := 36) hx hb hts iX12 hown hK hP 0 rfl rfl 0 (bl rfl) (hts _ qf_X12_7) (fun _ h => h) rfl dX12_mean_110 ?_
                      refine lv_bipush (v := iZ 118) hx hb dX12_mean_113 bip_118 ?_
                      refine lv_aload_n hx hb dX12_mean_115 rfl (lv_at hl 2 rfl) ?_
                      refine va_get (D := D) (ci := 12) (v := .ref Ma) (C := RX12) (T := TX12) (N := 36) hx hb hts iX12 hown hK hP 0 rfl rfl 0 (bl rfl) (hts _ qf_X12_7) (fun _ h => h) rfl dX12_mean_116 ?_
                      refine lv_iconst (v := iZ 3) hx hb dX12_mean_119 rfl ?_
                      refine va_iald hx hb hK hP 1 1 rfl rfl (zin (e := 3) (n := 5340) ⟨by omega, by omega⟩ (bl rfl)) dX12_mean_120 ?_
                      refine lv_topi (fun x_28 ex_28 => ?_)
                      obtain rfl : x_28 = iZ (gz u_21.2.2.1.1 3) := ex_28.trans (gz_eq ⟨by omega, by omega⟩)
                      have h_29 := gz_rg u_21.2.2.1.1 3
                      refine lv_iadd hx hb dX12_mean_121 ?_
                      refine lv_topi (fun x_30 ex_30 => ?_)
                      obtain rfl : x_30 = iZ (118 + (gz u_21.2.2.1.1 3)) := ex_30.trans (iZ_add 118 (gz u_21.2.2.1.1 3))
                      refine va_iald hx hb hK hP 1 1 rfl rfl (zin (e := (118 + (gz u_21.2.2.1.1 3))) (n := 5340) ⟨by omega, by omega⟩ (bl rfl)) dX12_mean_122 ?_
                      refine lv_topi (fun x_31 ex_31 => ?_)
                      obtain rfl : x_31 = iZ (gz u_21.2.2.1.1 (118 + (gz u_21.2.2.1.1 3))) := ex_31.trans (gz_eq ⟨by omega, by omega⟩)
                      have h_32 := gz_rg u_21.2.2.1.1 (118 + (gz u_21.2.2.1.1 3))
                      refine CPS (As := [.int (iZ (gz u_21.2.2.1.1 (118 + (gz u_21.2.2.1.1 3))))]) (rest := [.long v3_94]) hx hb hml hown hts hKK (hP.sub (ws' := []) [] rfl) (m_bits l D k (gz u_21.2.2.1.1 (118 + (gz u_21.2.2.1.1 3))) ⟨by omega, by omega⟩) ci_X12_bits qm_X12_409 ⟨Nat.le_of_ble_eq_true rfl, Nat.le_of_ble_eq_true rfl⟩ ⟨Nat.le_of_ble_eq_true rfl, Nat.le_of_ble_eq_true rfl⟩ rfl hl.1 rfl (Nat.le_of_ble_eq_true rfl) dX12_mean_123 (fun z_33 hz_33 => ?_)
                      refine lv_i2l (v := (iZ z_33).toInt64) hx hb dX12_mean_126 rfl ?_
                      refine lv_ladd hx hb dX12_mean_127 ?_
                      refine lv_topl (fun y_34 ey_34 => ?_)
                      refine lv_lstore_n (lv' := [(3, .long y_34), (5, .int (iZ v5_94)), (0, .ref hm), (1, .int (iZ x1)), (2, .int (iZ x2))]) hx hb dX12_mean_128 rfl hl (bl rfl) rfl (fun ls hl => ?_)
                      refine lv_iconst (v := iZ 0) hx hb dX12_mean_129 rfl ?_
                      refine lv_istore (lv' := [(6, .int (iZ 0)), (3, .long y_34), (5, .int (iZ v5_94)), (0, .ref hm), (1, .int (iZ x1)), (2, .int (iZ x2))]) hx hb dX12_mean_130 hl (bl rfl) rfl (fun ls hl => ?_)
                      have HL132 : ∀ (fu : Nat) (v6_132 : Int) (Afq132 : Nat → Int32) (H : Heap) (locs : List Loc) (ls : Array Slot), ((519) + 2 - v6_132) < (fu : Int) → ((0 ≤ v6_132 ∧ v6_132 ≤ (519) + 1)) → (∀ e : Int, 0 ≤ e → e < v6_132 → gz Afq132 e = gz u_21.2.2.1.1 (4450 + e)) → (∀ e : Int, 520 ≤ e → gz Afq132 e = gz u_21.2.2.1.1 e) → va_P D vwCl [(hm, .inr (12, [.ref Ma, .ref Mn, .int (iZ Mst), .long Mtp, .long Mbt, .ref Ms, .ref My, .ref Mt, .ref Mp, .ref Mx, .int (iZ Mtd), .int (iZ Msz), .int (iZ Mtk), .int (iZ Mfr), .int (iZ Men), .int (iZ Mva), .int (iZ Mfk), .int (iZ Mfp), .int (iZ Mfs), .int (iZ Mse), .int (iZ Mlt), .ref Mo, .int (iZ Mdp), .int (iZ Mct), .ref Mk, .ref Ml, .ref Mb, .ref Mh, .ref Mc, .int (iZ u_21.1.2.1), .int (iZ u_21.1.2.2), .ref Mz, .ref Mr, .ref Mq, .int (iZ Mit), .int (iZ Mmk)])), (Ma, .inl (k 1, 5340, .inl Afq132)), (Mk, .inl (k 1, 6, .inl u_21.2.2.1.2.1)), (Ml, .inl (k 1, 6, .inl u_21.2.2.1.2.2.1)), (Mb, .inl (k 1, 6, .inl u_21.2.2.1.2.2.2.1)), (Mh, .inl (k 1, 120, .inl u_21.2.2.1.2.2.2.2.1)), (Mz, .inl (k 1, 80, .inl u_21.2.2.1.2.2.2.2.2.1)), (Mr, .inl (k 1, 5, .inl u_21.2.2.1.2.2.2.2.2.2))] H → va_D A [(hm, .inr (12, [.ref Ma, .ref Mn, .int (iZ Mst), .long Mtp, .long Mbt, .ref Ms, .ref My, .ref Mt, .ref Mp, .ref Mx, .int (iZ Mtd), .int (iZ Msz), .int (iZ Mtk), .int (iZ Mfr), .int (iZ Men), .int (iZ Mva), .int (iZ Mfk), .int (iZ Mfp), .int (iZ Mfs), .int (iZ Mse), .int (iZ Mlt), .ref Mo, .int (iZ Mdp), .int (iZ Mct), .ref Mk, .ref Ml, .ref Mb, .ref Mh, .ref Mc, .int (iZ u_21.1.2.1), .int (iZ u_21.1.2.2), .ref Mz, .ref Mr, .ref Mq, .int (iZ Mit), .int (iZ Mmk)])), (Ma, .inl (k 1, 5340, .inl Afq132)), (Mk, .inl (k 1, 6, .inl u_21.2.2.1.2.1)), (Ml, .inl (k 1, 6, .inl u_21.2.2.1.2.2.1)), (Mb, .inl (k 1, 6, .inl u_21.2.2.1.2.2.2.1)), (Mh, .inl (k 1, 120, .inl u_21.2.2.1.2.2.2.2.1)), (Mz, .inl (k 1, 80, .inl u_21.2.2.1.2.2.2.2.2.1)), (Mr, .inl (k 1, 5, .inl u_21.2.2.1.2.2.2.2.2.2))] → va_S A s.heap H locs → lv_has ls 7 [(6, .int (iZ v6_132)), (3, .long y_34), (5, .int (iZ v5_94)), (0, .ref hm), (1, .int (iZ x1)), (2, .int (iZ x2))] → W p l e (rj 10 0 0) s m [.ref hm, .int (iZ x1), .int (iZ x2)].toArray below meth c H locs 0 0 (MQ below (QW (σ := ((Int × Int × Int × Int) × (Int64 × Int64 × Int64) × ((Nat → Int32) × (Nat → Int32) × (Nat → Int32) × (Nat → Int32) × (Nat → Int32) × (Nat → Int32) × (Nat → Int32)) × (Unit))) (fun u => some (.int (iZ u.1.1))) (fun u => (M0 u.2.2.1.1) ∧ (∀ e : Int, 520 ≤ e → e < 4450 → gz u.2.2.1.1 e = gz Af e) ∧ (0 ≤ u.1.2.2.1 ∧ u.1.2.2.1 ≤ 65535) ∧ (rgI u.2.2.1.2.2.2.2.1 0 1000000 120) ∧ (∀ e : Int, 0 ≤ e → e < 520 → gz u.2.2.1.1 e = gz Af e)) (fun u => [(hm, .inr (12, [.ref Ma, .ref Mn, .int (iZ u.1.2.1), .long u.2.1.2.1, .long u.2.1.2.2, .ref Ms, .ref My, .ref Mt, .ref Mp, .ref Mx, .int (iZ Mtd), .int (iZ Msz), .int (iZ Mtk), .int (iZ Mfr), .int (iZ Men), .int (iZ Mva), .int (iZ Mfk), .int (iZ Mfp), .int (iZ Mfs), .int (iZ Mse), .int (iZ Mlt), .ref Mo, .int (iZ Mdp), .int (iZ Mct), .ref Mk, .ref Ml, .ref Mb, .ref Mh, .ref Mc, .int (iZ u.1.2.2.1), .int (iZ u.1.2.2.2), .ref Mz, .ref Mr, .ref Mq, .int (iZ Mit), .int (iZ Mmk)])), (Ma, .inl (k 1, 5340, .inl u.2.2.1.1)), (Mk, .inl (k 1, 6, .inl u.2.2.1.2.1)), (Ml, .inl (k 1, 6, .inl u.2.2.1.2.2.1)), (Mb, .inl (k 1, 6, .inl u.2.2.1.2.2.2.1)), (Mh, .inl (k 1, 120, .inl u.2.2.1.2.2.2.2.1)), (Mz, .inl (k 1, 80, .inl u.2.2.1.2.2.2.2.2.1)), (Mr, .inl (k 1, 5, .inl u.2.2.1.2.2.2.2.2.2))]) D A) [.ref hm, .int (iZ x1), .int (iZ x2)].toArray s 0 0 A) (F0 m 132 ls []) := by
                        intro fu
                        induction fu with
                        | zero => intro v6_132 Afq132 H locs ls hμ132 hi132 hcb1 hcb2 hP hD hS hl; exact absurd hμ132 (by omega)
                        | succ fu ih132 =>
                          intro v6_132 Afq132 H locs ls hμ132 hi132 hcb1 hcb2 hP hD hS hl
                          refine lv_iload hx hb dX12_mean_132 (lv_at hl 0 rfl) ?_
                          refine lv_sipush (v := iZ 520) hx hb dX12_mean_134 sip_520 ?_
                          refine lv_icmp_ge (tgt := 164) hx hb dX12_mean_137 rfl (fun c_35 => ?_) (fun c_35 => ?_)
                          ·
                            have c_35 := (zle (x := iZ 520) (y := iZ v6_132) rfl rfl wn_520 ⟨by omega, by omega⟩).mp c_35
                            obtain rfl : v6_132 = 520 := by omega
                            have hMb : M0 Afq132 := M0.back hM (fun e h1 h2 => by have := hcb1 e h1 h2; have := hO1 e h1 h2; have := p_23.1 (4450 + e) (by omega); omega) (fun e h1 h2 => by have := hcb2 e h1; have := hO2 e h1 h2; have := p_23.1 e (by omega); omega)
                            have hz0 : gz Afq132 0 = gz Af 0 := by have := hcb1 0 (by omega) (by omega); have := hO1 0 (by omega) (by omega); have := p_23.1 (4450 + 0) (by omega); omega
                            refine lv_iinc (v := iZ (v5_94 + 1)) (lv' := [(5, .int (iZ (v5_94 + 1))), (6, .int (iZ 520)), (3, .long y_34), (0, .ref hm), (1, .int (iZ x1)), (2, .int (iZ x2))]) hx hb dX12_mean_164 hl (k := 2) rfl (iZ_add v5_94 1) (by decide) rfl (fun ls hl => ?_)
                            refine lv_goto (tgt := 94) hx hb dX12_mean_167 rfl ?_
                            exact ih94  y_34 (v5_94 + 1) u_21.1.2.1 u_21.1.2.2 Afq132 u_21.2.2.1.2.1 u_21.2.2.1.2.2.1 u_21.2.2.1.2.2.2.1 u_21.2.2.1.2.2.2.2.1 u_21.2.2.1.2.2.2.2.2.1 u_21.2.2.1.2.2.2.2.2.2 _ _ _ (by omega) (show (0 ≤ (v5_94 + 1) ∧ (v5_94 + 1) ≤ (x2) + 1) from ⟨by omega, by omega⟩) (show M0 Afq132 from hMb) (show ∀ e : Int, 0 ≤ e → e < 520 → gz Afq132 (4450 + e) = gz Af e from (fun e h1 h2 => by have := hcb2 (4450 + e) (by omega); have := hO1 e h1 h2; have := p_23.1 (4450 + e) (by omega); omega)) (show ∀ e : Int, 520 ≤ e → e < 4450 → gz Afq132 e = gz Af e from (fun e h1 h2 => by have := hcb2 e (by omega); have := hO2 e h1 h2; have := p_23.1 e (by omega); omega)) (show 0 ≤ u_21.1.2.1 ∧ u_21.1.2.1 ≤ 65535 from ⟨by omega, by omega⟩) (show gz Afq132 0 = gz Af 0 from (by omega)) (show rgI u_21.2.2.1.2.2.2.2.1 0 1000000 120 from p_25) (show ∀ e : Int, 0 ≤ e → e < 520 → gz Afq132 e = gz Af e from (fun e h1 h2 => by have := hcb1 e h1 h2; have := hO1 e h1 h2; have := p_23.1 (4450 + e) (by omega); omega)) (hP.sub [0, 1, 2, 3, 4, 5, 6, 7] rfl) (hD.sub [0, 1, 2, 3, 4, 5, 6, 7] rfl rfl) hS (lv_sub hl [0, 2, 3, 4, 5] rfl)
                          ·
                            have c_35 := mt (zle (x := iZ 520) (y := iZ v6_132) rfl rfl wn_520 ⟨by omega, by omega⟩).mpr c_35
                            refine lv_aload_n hx hb dX12_mean_140 rfl (lv_at hl 3 rfl) ?_
                            refine va_get (D := D) (ci := 12) (v := .ref Ma) (C := RX12) (T := TX12) (N := 36) hx hb hts iX12 hown hK hP 0 rfl rfl 0 (bl rfl) (hts _ qf_X12_7) (fun _ h => h) rfl dX12_mean_141 ?_
                            refine lv_iload hx hb dX12_mean_144 (lv_at hl 0 rfl) ?_
                            refine lv_aload_n hx hb dX12_mean_146 rfl (lv_at hl 3 rfl) ?_
                            refine va_get (D := D) (ci := 12) (v := .ref Ma) (C := RX12) (T := TX12) (N := 36) hx hb hts iX12 hown hK hP 0 rfl rfl 0 (bl rfl) (hts _ qf_X12_7) (fun _ h => h) rfl dX12_mean_147 ?_
                            refine lv_sipush (v := iZ 4450) hx hb dX12_mean_150 sip_4450 ?_
                            refine lv_iload hx hb dX12_mean_153 (lv_at hl 0 rfl) ?_
                            refine lv_iadd hx hb dX12_mean_155 ?_
                            refine lv_topi (fun x_36 ex_36 => ?_)
                            obtain rfl : x_36 = iZ (4450 + v6_132) := ex_36.trans (iZ_add 4450 v6_132)
                            refine va_iald hx hb hK hP 1 1 rfl rfl (zin (e := (4450 + v6_132)) (n := 5340) ⟨by omega, by omega⟩ (bl rfl)) dX12_mean_156 ?_
                            refine lv_topi (fun x_37 ex_37 => ?_)
                            obtain rfl : x_37 = iZ (gz Afq132 (4450 + v6_132)) := ex_37.trans (gz_eq ⟨by omega, by omega⟩)
                            have h_38 := gz_rg Afq132 (4450 + v6_132)
                            refine va_iast hx hb hK hP hD hS 1 1 rfl rfl (zin (e := v6_132) (n := 5340) ⟨by omega, by omega⟩ (bl rfl)) dX12_mean_157 (fun H locs hP hD hS => ?_)
                            obtain ⟨f_39, hf_39⟩ : ∃ gg9, gg9 = upd Afq132 (iZ v6_132).toNatClampNeg (iZ (gz Afq132 (4450 + v6_132))) := ⟨_, rfl⟩
                            rw [← hf_39] at hP hD
                            refine lv_iinc (v := iZ (v6_132 + 1)) (lv' := [(6, .int (iZ (v6_132 + 1))), (3, .long y_34), (5, .int (iZ v5_94)), (0, .ref hm), (1, .int (iZ x1)), (2, .int (iZ x2))]) hx hb dX12_mean_158 hl (k := 0) rfl (iZ_add v6_132 1) (by decide) rfl (fun ls hl => ?_)
                            refine lv_goto (tgt := 132) hx hb dX12_mean_161 rfl ?_
                            exact ih132  (v6_132 + 1) f_39 _ _ _ (by omega) (show (0 ≤ (v6_132 + 1) ∧ (v6_132 + 1) ≤ (519) + 1) from ⟨by omega, by omega⟩) (show ∀ e : Int, 0 ≤ e → e < (v6_132 + 1) → gz f_39 e = gz u_21.2.2.1.1 (4450 + e) from (fun e h1 h2 => by have c1 := gz_upc (j := e) hf_39 ⟨by omega, by omega⟩ ⟨by omega, by omega⟩ (by omega); rcases Int.lt_or_eq_of_le (show e ≤ v6_132 by omega) with h3 | h3; have := hcb1 e h1 h3; omega; rw [h3] at c1 ⊢; have c2 := hcb2 (4450 + v6_132) (by omega); omega)) (show ∀ e : Int, 520 ≤ e → gz f_39 e = gz u_21.2.2.1.1 e from (fun e h1 => by have c1 := gz_upc (j := e) hf_39 ⟨by omega, by omega⟩ ⟨by omega, by omega⟩ (by omega); have := hcb2 e h1; omega)) (hP.sub [0, 1, 2, 3, 4, 5, 6, 7] rfl) (hD.sub [0, 1, 2, 3, 4, 5, 6, 7] rfl rfl) hS (lv_sub hl [0, 1, 2, 3, 4, 5] rfl)
                      exact HL132 523 0 u_21.2.2.1.1 _ _ _ (by omega) (show (0 ≤ 0 ∧ 0 ≤ (519) + 1) from ⟨by omega, by omega⟩) (show ∀ e : Int, 0 ≤ e → e < 0 → gz u_21.2.2.1.1 e = gz u_21.2.2.1.1 (4450 + e) from (fun e h1 h2 => absurd h1 (by omega))) (show ∀ e : Int, 520 ≤ e → gz u_21.2.2.1.1 e = gz u_21.2.2.1.1 e from (fun e h1 => rfl)) (hP.sub [0, 1, 2, 3, 4, 5, 6, 7] rfl) (hD.sub [0, 1, 2, 3, 4, 5, 6, 7] rfl rfl) hS (lv_sub hl [0, 1, 2, 3, 4, 5] rfl)
                exact HL94 14 0 0 Mdr Mrs Afq60 Kf Lf Bf Hf Zf Rf _ _ _ (by omega) (show (0 ≤ 0 ∧ 0 ≤ (x2) + 1) from ⟨by omega, by omega⟩) (show M0 Afq60 from hMw) (show ∀ e : Int, 0 ≤ e → e < 520 → gz Afq60 (4450 + e) = gz Af e from (fun e h1 h2 => hw1 e h1 h2)) (show ∀ e : Int, 520 ≤ e → e < 4450 → gz Afq60 e = gz Af e from (fun e h1 h2 => hk1 e (by omega) h2)) (show 0 ≤ Mdr ∧ Mdr ≤ 65535 from ⟨by omega, by omega⟩) (show gz Afq60 0 = gz Af 0 from (by have := hk1 0 (by omega) (by omega); omega)) (show rgI Hf 0 1000000 120 from rgH) (show ∀ e : Int, 0 ≤ e → e < 520 → gz Afq60 e = gz Af e from (fun e h1 h2 => hk1 e h1 (by omega))) (hP.sub [0, 1, 2, 3, 4, 5, 6, 7] rfl) (hD.sub [0, 1, 2, 3, 4, 5, 6, 7] rfl rfl) hS (lv_sub hl [0, 1, 2, 3, 4] rfl)
              ·
                have c_17 := mt (zle (x := iZ 520) (y := iZ v3_60) rfl rfl wn_520 ⟨by omega, by omega⟩).mpr c_17
                refine lv_aload_n hx hb dX12_mean_67 rfl (lv_at hl 1 rfl) ?_
                refine va_get (D := D) (ci := 12) (v := .ref Ma) (C := RX12) (T := TX12) (N := 36) hx hb hts iX12 hown hK hP 0 rfl rfl 0 (bl rfl) (hts _ qf_X12_7) (fun _ h => h) rfl dX12_mean_68 ?_
                refine lv_sipush (v := iZ 4450) hx hb dX12_mean_71 sip_4450 ?_
                refine lv_iload_n hx hb dX12_mean_74 rfl (lv_at hl 0 rfl) ?_
                refine lv_iadd hx hb dX12_mean_75 ?_
                refine lv_topi (fun x_40 ex_40 => ?_)
                obtain rfl : x_40 = iZ (4450 + v3_60) := ex_40.trans (iZ_add 4450 v3_60)
                refine lv_aload_n hx hb dX12_mean_76 rfl (lv_at hl 1 rfl) ?_
                refine va_get (D := D) (ci := 12) (v := .ref Ma) (C := RX12) (T := TX12) (N := 36) hx hb hts iX12 hown hK hP 0 rfl rfl 0 (bl rfl) (hts _ qf_X12_7) (fun _ h => h) rfl dX12_mean_77 ?_
                refine lv_iload_n hx hb dX12_mean_80 rfl (lv_at hl 0 rfl) ?_
                refine va_iald hx hb hK hP 1 1 rfl rfl (zin (e := v3_60) (n := 5340) ⟨by omega, by omega⟩ (bl rfl)) dX12_mean_81 ?_
                refine lv_topi (fun x_41 ex_41 => ?_)
                obtain rfl : x_41 = iZ (gz Afq60 v3_60) := ex_41.trans (gz_eq ⟨by omega, by omega⟩)
                have h_42 := gz_rg Afq60 v3_60
                refine va_iast hx hb hK hP hD hS 1 1 rfl rfl (zin (e := (4450 + v3_60)) (n := 5340) ⟨by omega, by omega⟩ (bl rfl)) dX12_mean_82 (fun H locs hP hD hS => ?_)
                obtain ⟨f_43, hf_43⟩ : ∃ gg9, gg9 = upd Afq60 (iZ (4450 + v3_60)).toNatClampNeg (iZ (gz Afq60 v3_60)) := ⟨_, rfl⟩
                rw [← hf_43] at hP hD
                refine lv_iinc (v := iZ (v3_60 + 1)) (lv' := [(3, .int (iZ (v3_60 + 1))), (0, .ref hm), (1, .int (iZ x1)), (2, .int (iZ x2))]) hx hb dX12_mean_83 hl (k := 0) rfl (iZ_add v3_60 1) (by decide) rfl (fun ls hl => ?_)
                refine lv_goto (tgt := 60) hx hb dX12_mean_86 rfl ?_
                exact ih60  (v3_60 + 1) f_43 _ _ _ (by omega) (show (0 ≤ (v3_60 + 1) ∧ (v3_60 + 1) ≤ (519) + 1) from ⟨by omega, by omega⟩) (show ∀ e : Int, 0 ≤ e → e < (v3_60 + 1) → gz f_43 (4450 + e) = gz Af e from (fun e h1 h2 => by have c1 := gz_upc (j := 4450 + e) hf_43 ⟨by omega, by omega⟩ ⟨by omega, by omega⟩ (by omega); rcases Int.lt_or_eq_of_le (show e ≤ v3_60 by omega) with h3 | h3; have := hw1 e h1 h3; omega; rw [h3] at c1 ⊢; have c2 := hk1 v3_60 (by omega) (by omega); omega)) (show ∀ e : Int, 0 ≤ e → e < 4450 → gz f_43 e = gz Af e from (fun e h1 h2 => by have c1 := gz_upc (j := e) hf_43 ⟨by omega, by omega⟩ ⟨by omega, by omega⟩ (by omega); have := hk1 e h1 h2; omega)) (hP.sub [0, 1, 2, 3, 4, 5, 6, 7] rfl) (hD.sub [0, 1, 2, 3, 4, 5, 6, 7] rfl rfl) hS (lv_sub hl [0, 1, 2, 3] rfl)
          exact HL60 523 0 Af _ _ _ (by omega) (show (0 ≤ 0 ∧ 0 ≤ (519) + 1) from ⟨by omega, by omega⟩) (show ∀ e : Int, 0 ≤ e → e < 0 → gz Af (4450 + e) = gz Af e from (fun e h1 h2 => absurd h1 (by omega))) (show ∀ e : Int, 0 ≤ e → e < 4450 → gz Af e = gz Af e from (fun e h1 h2 => rfl)) (hP.sub [0, 1, 2, 3, 4, 5, 6, 7] rfl) (hD.sub [0, 1, 2, 3, 4, 5, 6, 7] rfl rfl) hS (lv_sub hl [0, 1, 2, 3] rfl)
        ·
          have c_16 := (zeq (x := iZ (gz Af 5)) (y := iZ (-1)) rfl rfl (gz_rg Af 5) wn_m1).mp c_16
          refine lv_aload_n hx hb dX12_mean_51 rfl (lv_at hl 0 rfl) ?_
          refine lv_bipush (v := iZ 6) hx hb dX12_mean_52 bip_6 ?_
          refine CWV (As := [.int (iZ 6)]) (rest := []) (wc := _) (wr := [(Ma, .inl (k 1, 5340, .inl Af)), (Mk, .inl (k 1, 6, .inl Kf)), (Ml, .inl (k 1, 6, .inl Lf)), (Mb, .inl (k 1, 6, .inl Bf)), (Mh, .inl (k 1, 120, .inl Hf)), (Mz, .inl (k 1, 80, .inl Zf)), (Mr, .inl (k 1, 5, .inl Rf))]) hx hb hml hown hts hKK hP hD hS hA (m_isN l D k hm Ma Mn Ms My Mt Mp Mx Mo Mk Ml Mb Mh Mc Mz Mr Mq Mst Mtd Msz Mtk Mfr Men Mva Mfk Mfp Mfs Mse Mlt Mdp Mct Mdr Mrs Mit Mmk Mtp Mbt 6 ⟨by omega, by omega⟩ (by omega)) ci_X12_is qm_X12_89 ⟨Nat.le_of_ble_eq_true rfl, Nat.le_of_ble_eq_true rfl⟩ ⟨Nat.le_of_ble_eq_true rfl, Nat.le_of_ble_eq_true rfl⟩ [0] [1, 2, 3, 4, 5, 6, 7] rfl rfl rfl rfl rfl (dj rfl) 0 rfl rfl rfl hl.1 rfl (Nat.le_of_ble_eq_true rfl) dX12_mean_54 (fun u_44 H locs hφ hP hD hS => ?_)
          refine W.eq (g2 := F0 m 57 ls [.int (iZ 0)]) rfl ?_
          exact EWz hx hb hr hlocks hS ((0, 6, Mdr, Mrs), (0, Mtp, Mbt), (Af, Kf, Lf, Bf, Hf, Zf, Rf), ()) rfl rfl ⟨(show M0 Af from hM), (show ∀ e : Int, 520 ≤ e → e < 4450 → gz Af e = gz Af e from (fun e h1 h2 => rfl)), (show 0 ≤ Mdr ∧ Mdr ≤ 65535 from (by omega)), (show rgI Hf 0 1000000 120 from rgH), (show ∀ e : Int, 0 ≤ e → e < 520 → gz Af e = gz Af e from (fun e h1 h2 => rfl))⟩ (hP.sub [7, 0, 1, 2, 3, 4, 5, 6] rfl) (hD.sub [7, 0, 1, 2, 3, 4, 5, 6] rfl rfl) dX12_mean_57
      ·
        have c_13 := mt (zle (x := iZ ((x1 + x2) - 1)) (y := iZ 9999) rfl rfl ⟨by omega, by omega⟩ wn_9999).mpr c_13
        refine lv_aload_n hx hb dX12_mean_35 rfl (lv_at hl 0 rfl) ?_
        refine lv_iconst (v := iZ 1) hx hb dX12_mean_36 rfl ?_
        refine CWV (As := [.int (iZ 1)]) (rest := []) (wc := _) (wr := [(Ma, .inl (k 1, 5340, .inl Af)), (Mk, .inl (k 1, 6, .inl Kf)), (Ml, .inl (k 1, 6, .inl Lf)), (Mb, .inl (k 1, 6, .inl Bf)), (Mh, .inl (k 1, 120, .inl Hf)), (Mz, .inl (k 1, 80, .inl Zf)), (Mr, .inl (k 1, 5, .inl Rf))]) hx hb hml hown hts hKK hP hD hS hA (m_isN l D k hm Ma Mn Ms My Mt Mp Mx Mo Mk Ml Mb Mh Mc Mz Mr Mq Mst Mtd Msz Mtk Mfr Men Mva Mfk Mfp Mfs Mse Mlt Mdp Mct Mdr Mrs Mit Mmk Mtp Mbt 1 ⟨by omega, by omega⟩ (by omega)) ci_X12_is qm_X12_89 ⟨Nat.le_of_ble_eq_true rfl, Nat.le_of_ble_eq_true rfl⟩ ⟨Nat.le_of_ble_eq_true rfl, Nat.le_of_ble_eq_true rfl⟩ [0] [1, 2, 3, 4, 5, 6, 7] rfl rfl rfl rfl rfl (dj rfl) 0 rfl rfl rfl hl.1 rfl (Nat.le_of_ble_eq_true rfl) dX12_mean_37 (fun u_45 H locs hφ hP hD hS => ?_)
        refine W.eq (g2 := F0 m 40 ls [.int (iZ 0)]) rfl ?_
        exact EWz hx hb hr hlocks hS ((0, 1, Mdr, Mrs), (0, Mtp, Mbt), (Af, Kf, Lf, Bf, Hf, Zf, Rf), ()) rfl rfl ⟨(show M0 Af from hM), (show ∀ e : Int, 520 ≤ e → e < 4450 → gz Af e = gz Af e from (fun e h1 h2 => rfl)), (show 0 ≤ Mdr ∧ Mdr ≤ 65535 from (by omega)), (show rgI Hf 0 1000000 120 from rgH), (show ∀ e : Int, 0 ≤ e → e < 520 → gz Af e = gz Af e from (fun e h1 h2 => rfl))⟩ (hP.sub [7, 0, 1, 2, 3, 4, 5, 6] rfl) (hD.sub [7, 0, 1, 2, 3, 4, 5, 6] rfl rfl) dX12_mean_40
    ·
      subst qz_6
      refine lv_if_eq (tgt := 35) hx hb dX12_mean_21 rfl (fun _ => ?_) (fun c => absurd (by decide) c)
      refine lv_aload_n hx hb dX12_mean_35 rfl (lv_at hl 0 rfl) ?_
      refine lv_iconst (v := iZ 1) hx hb dX12_mean_36 rfl ?_
      refine CWV (As := [.int (iZ 1)]) (rest := []) (wc := _) (wr := [(Ma, .inl (k 1, 5340, .inl Af)), (Mk, .inl (k 1, 6, .inl Kf)), (Ml, .inl (k 1, 6, .inl Lf)), (Mb, .inl (k 1, 6, .inl Bf)), (Mh, .inl (k 1, 120, .inl Hf)), (Mz, .inl (k 1, 80, .inl Zf)), (Mr, .inl (k 1, 5, .inl Rf))]) hx hb hml hown hts hKK hP hD hS hA (m_isN l D k hm Ma Mn Ms My Mt Mp Mx Mo Mk Ml Mb Mh Mc Mz Mr Mq Mst Mtd Msz Mtk Mfr Men Mva Mfk Mfp Mfs Mse Mlt Mdp Mct Mdr Mrs Mit Mmk Mtp Mbt 1 ⟨by omega, by omega⟩ (by omega)) ci_X12_is qm_X12_89 ⟨Nat.le_of_ble_eq_true rfl, Nat.le_of_ble_eq_true rfl⟩ ⟨Nat.le_of_ble_eq_true rfl, Nat.le_of_ble_eq_true rfl⟩ [0] [1, 2, 3, 4, 5, 6, 7] rfl rfl rfl rfl rfl (dj rfl) 0 rfl rfl rfl hl.1 rfl (Nat.le_of_ble_eq_true rfl) dX12_mean_37 (fun u_47 H locs hφ hP hD hS => ?_)
      refine W.eq (g2 := F0 m 40 ls [.int (iZ 0)]) rfl ?_
      exact EWz hx hb hr hlocks hS ((0, 1, Mdr, Mrs), (0, Mtp, Mbt), (Af, Kf, Lf, Bf, Hf, Zf, Rf), ()) rfl rfl ⟨(show M0 Af from hM), (show ∀ e : Int, 520 ≤ e → e < 4450 → gz Af e = gz Af e from (fun e h1 h2 => rfl)), (show 0 ≤ Mdr ∧ Mdr ≤ 65535 from (by omega)), (show rgI Hf 0 1000000 120 from rgH), (show ∀ e : Int, 0 ≤ e → e < 520 → gz Af e = gz Af e from (fun e h1 h2 => rfl))⟩ (hP.sub [7, 0, 1, 2, 3, 4, 5, 6] rfl) (hD.sub [7, 0, 1, 2, 3, 4, 5, 6] rfl rfl) dX12_mean_40
  ·
    subst qz_1
    refine lv_if_eq (tgt := 35) hx hb dX12_mean_9 rfl (fun _ => ?_) (fun c => absurd (by decide) c)
    refine lv_aload_n hx hb dX12_mean_35 rfl (lv_at hl 0 rfl) ?_
    refine lv_iconst (v := iZ 1) hx hb dX12_mean_36 rfl ?_
    refine CWV (As := [.int (iZ 1)]) (rest := []) (wc := _) (wr := [(Ma, .inl (k 1, 5340, .inl Af)), (Mk, .inl (k 1, 6, .inl Kf)), (Ml, .inl (k 1, 6, .inl Lf)), (Mb, .inl (k 1, 6, .inl Bf)), (Mh, .inl (k 1, 120, .inl Hf)), (Mz, .inl (k 1, 80, .inl Zf)), (Mr, .inl (k 1, 5, .inl Rf))]) hx hb hml hown hts hKK hP hD hS hA (m_isN l D k hm Ma Mn Ms My Mt Mp Mx Mo Mk Ml Mb Mh Mc Mz Mr Mq Mst Mtd Msz Mtk Mfr Men Mva Mfk Mfp Mfs Mse Mlt Mdp Mct Mdr Mrs Mit Mmk Mtp Mbt 1 ⟨by omega, by omega⟩ (by omega)) ci_X12_is qm_X12_89 ⟨Nat.le_of_ble_eq_true rfl, Nat.le_of_ble_eq_true rfl⟩ ⟨Nat.le_of_ble_eq_true rfl, Nat.le_of_ble_eq_true rfl⟩ [0] [1, 2, 3, 4, 5, 6, 7] rfl rfl rfl rfl rfl (dj rfl) 0 rfl rfl rfl hl.1 rfl (Nat.le_of_ble_eq_true rfl) dX12_mean_37 (fun u_49 H locs hφ hP hD hS => ?_)
    refine W.eq (g2 := F0 m 40 ls [.int (iZ 0)]) rfl ?_
    exact EWz hx hb hr hlocks hS ((0, 1, Mdr, Mrs), (0, Mtp, Mbt), (Af, Kf, Lf, Bf, Hf, Zf, Rf), ()) rfl rfl ⟨(show M0 Af from hM), (show ∀ e : Int, 520 ≤ e → e < 4450 → gz Af e = gz Af e from (fun e h1 h2 => rfl)), (show 0 ≤ Mdr ∧ Mdr ≤ 65535 from (by omega)), (show rgI Hf 0 1000000 120 from rgH), (show ∀ e : Int, 0 ≤ e → e < 520 → gz Af e = gz Af e from (fun e h1 h2 => rfl))⟩ (hP.sub [7, 0, 1, 2, 3, 4, 5, 6] rfl) (hD.sub [7, 0, 1, 2, 3, 4, 5, 6] rfl rfl) dX12_mean_40
end
