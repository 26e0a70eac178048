theorem qc_X11_weeksFollowed : Cond.code yX11_weeksFollowed cX11_weeksFollowed 7 (some .int) ∈ gw := tbt (tb5 (List.mem_of_getElem? (i := 200) rfl)) rfl
theorem qi_yX11_weeksFollowed : Cond.instanceMethod yX11_weeksFollowed ∈ gw := tbt (tb5 (List.mem_of_getElem? (i := 199) rfl)) rfl
theorem qs_X11_weeksFollowed : Cond.selects (yX11_weeksFollowed).cls yX11_weeksFollowed yX11_weeksFollowed ∈ gw := tb0 (List.mem_of_getElem? (i := 31) rfl) rfl
theorem ci_X11_weeksFollowed : CIv yX11_weeksFollowed cX11_weeksFollowed 7 (some .int) 2 := ⟨qc_X11_weeksFollowed, qi_yX11_weeksFollowed, qs_X11_weeksFollowed, qz_X11, by decide +kernel⟩
theorem qm_X11_356 : Cond.methodLink RX11 356 yX11_weeksFollowed ∈ gw := tbt (tb5 (List.mem_of_getElem? (i := 197) rfl)) rfl
theorem dX11_confirmed_0 : decode cX11_confirmed 0 = .ok (.aload_n 0, 1) := by decide +kernel
theorem dX11_confirmed_1 : decode cX11_confirmed 1 = .ok (.iload_n 1, 1) := by decide +kernel
theorem dX11_confirmed_2 : decode cX11_confirmed 2 = .ok (.invokevirtual 296, 3) := by decide +kernel
theorem dX11_confirmed_5 : decode cX11_confirmed 5 = .ok (.ifCond .eq 11, 3) := by decide +kernel
theorem dX11_confirmed_8 : decode cX11_confirmed 8 = .ok (.aload_n 0, 1) := by decide +kernel
theorem dX11_confirmed_9 : decode cX11_confirmed 9 = .ok (.iload_n 2, 1) := by decide +kernel
theorem dX11_confirmed_10 : decode cX11_confirmed 10 = .ok (.invokevirtual 331, 3) := by decide +kernel
theorem dX11_confirmed_13 : decode cX11_confirmed 13 = .ok (.ifCond .ne 9, 3) := by decide +kernel
theorem dX11_confirmed_16 : decode cX11_confirmed 16 = .ok (.aload_n 0, 1) := by decide +kernel
theorem dX11_confirmed_17 : decode cX11_confirmed 17 = .ok (.iconst 1, 1) := by decide +kernel
theorem dX11_confirmed_18 : decode cX11_confirmed 18 = .ok (.invokevirtual 126, 3) := by decide +kernel
theorem dX11_confirmed_21 : decode cX11_confirmed 21 = .ok (.ireturn, 1) := by decide +kernel
theorem dX11_confirmed_22 : decode cX11_confirmed 22 = .ok (.aload_n 0, 1) := by decide +kernel
theorem dX11_confirmed_23 : decode cX11_confirmed 23 = .ok (.getfield 18, 3) := by decide +kernel
theorem dX11_confirmed_26 : decode cX11_confirmed 26 = .ok (.getfield 205, 3) := by decide +kernel
theorem dX11_confirmed_29 : decode cX11_confirmed 29 = .ok (.getfield 299, 3) := by decide +kernel
theorem dX11_confirmed_32 : decode cX11_confirmed 32 = .ok (.iload_n 1, 1) := by decide +kernel
theorem dX11_confirmed_33 : decode cX11_confirmed 33 = .ok (.iaload, 1) := by decide +kernel
theorem dX11_confirmed_34 : decode cX11_confirmed 34 = .ok (.istore_n 3, 1) := by decide +kernel
theorem dX11_confirmed_35 : decode cX11_confirmed 35 = .ok (.aload_n 0, 1) := by decide +kernel
theorem dX11_confirmed_36 : decode cX11_confirmed 36 = .ok (.getfield 18, 3) := by decide +kernel
theorem dX11_confirmed_39 : decode cX11_confirmed 39 = .ok (.getfield 205, 3) := by decide +kernel
theorem dX11_confirmed_42 : decode cX11_confirmed 42 = .ok (.getfield 302, 3) := by decide +kernel
theorem dX11_confirmed_45 : decode cX11_confirmed 45 = .ok (.iload_n 1, 1) := by decide +kernel
theorem dX11_confirmed_46 : decode cX11_confirmed 46 = .ok (.iaload, 1) := by decide +kernel
theorem dX11_confirmed_47 : decode cX11_confirmed 47 = .ok (.istore 4, 2) := by decide +kernel
theorem dX11_confirmed_49 : decode cX11_confirmed 49 = .ok (.iconst 0, 1) := by decide +kernel
theorem dX11_confirmed_50 : decode cX11_confirmed 50 = .ok (.istore 5, 2) := by decide +kernel
theorem dX11_confirmed_52 : decode cX11_confirmed 52 = .ok (.iload 5, 2) := by decide +kernel
theorem dX11_confirmed_54 : decode cX11_confirmed 54 = .ok (.aload_n 0, 1) := by decide +kernel
theorem dX11_confirmed_55 : decode cX11_confirmed 55 = .ok (.getfield 18, 3) := by decide +kernel
theorem dX11_confirmed_58 : decode cX11_confirmed 58 = .ok (.getfield 54, 3) := by decide +kernel
theorem dX11_confirmed_61 : decode cX11_confirmed 61 = .ok (.getfield 169, 3) := by decide +kernel
theorem dX11_confirmed_64 : decode cX11_confirmed 64 = .ok (.if_icmp .ge 72, 3) := by decide +kernel
theorem dX11_confirmed_67 : decode cX11_confirmed 67 = .ok (.iload 5, 2) := by decide +kernel
theorem dX11_confirmed_69 : decode cX11_confirmed 69 = .ok (.iload_n 3, 1) := by decide +kernel
theorem dX11_confirmed_70 : decode cX11_confirmed 70 = .ok (.if_icmp .eq 60, 3) := by decide +kernel
theorem dX11_confirmed_73 : decode cX11_confirmed 73 = .ok (.iload_n 2, 1) := by decide +kernel
theorem dX11_confirmed_74 : decode cX11_confirmed 74 = .ok (.iload 5, 2) := by decide +kernel
theorem dX11_confirmed_76 : decode cX11_confirmed 76 = .ok (.ishr, 1) := by decide +kernel
theorem dX11_confirmed_77 : decode cX11_confirmed 77 = .ok (.iconst 1, 1) := by decide +kernel
theorem dX11_confirmed_78 : decode cX11_confirmed 78 = .ok (.iand, 1) := by decide +kernel
theorem dX11_confirmed_79 : decode cX11_confirmed 79 = .ok (.iconst 1, 1) := by decide +kernel
theorem dX11_confirmed_80 : decode cX11_confirmed 80 = .ok (.if_icmp .ne 50, 3) := by decide +kernel
theorem dX11_confirmed_83 : decode cX11_confirmed 83 = .ok (.aload_n 0, 1) := by decide +kernel
theorem dX11_confirmed_84 : decode cX11_confirmed 84 = .ok (.getfield 61, 3) := by decide +kernel
theorem dX11_confirmed_87 : decode cX11_confirmed 87 = .ok (.iload 5, 2) := by decide +kernel
theorem dX11_confirmed_89 : decode cX11_confirmed 89 = .ok (.aload_n 0, 1) := by decide +kernel
theorem dX11_confirmed_90 : decode cX11_confirmed 90 = .ok (.getfield 18, 3) := by decide +kernel
theorem dX11_confirmed_93 : decode cX11_confirmed 93 = .ok (.getfield 205, 3) := by decide +kernel
theorem dX11_confirmed_96 : decode cX11_confirmed 96 = .ok (.iload_n 1, 1) := by decide +kernel
theorem dX11_confirmed_97 : decode cX11_confirmed 97 = .ok (.iload 5, 2) := by decide +kernel
theorem dX11_confirmed_99 : decode cX11_confirmed 99 = .ok (.invokevirtual 305, 3) := by decide +kernel
theorem dX11_confirmed_102 : decode cX11_confirmed 102 = .ok (.iload_n 3, 1) := by decide +kernel
theorem dX11_confirmed_103 : decode cX11_confirmed 103 = .ok (.invokevirtual 247, 3) := by decide +kernel
theorem dX11_confirmed_106 : decode cX11_confirmed 106 = .ok (.istore 6, 2) := by decide +kernel
theorem dX11_confirmed_108 : decode cX11_confirmed 108 = .ok (.iload 6, 2) := by decide +kernel
theorem dX11_confirmed_110 : decode cX11_confirmed 110 = .ok (.iconst (-1), 1) := by decide +kernel
theorem dX11_confirmed_111 : decode cX11_confirmed 111 = .ok (.if_icmp .ne 10, 3) := by decide +kernel
theorem dX11_confirmed_114 : decode cX11_confirmed 114 = .ok (.aload_n 0, 1) := by decide +kernel
theorem dX11_confirmed_115 : decode cX11_confirmed 115 = .ok (.bipush 6, 2) := by decide +kernel
theorem dX11_confirmed_117 : decode cX11_confirmed 117 = .ok (.invokevirtual 126, 3) := by decide +kernel
theorem dX11_confirmed_120 : decode cX11_confirmed 120 = .ok (.ireturn, 1) := by decide +kernel
theorem dX11_confirmed_121 : decode cX11_confirmed 121 = .ok (.iload 4, 2) := by decide +kernel
theorem dX11_confirmed_123 : decode cX11_confirmed 123 = .ok (.iload 6, 2) := by decide +kernel
theorem dX11_confirmed_125 : decode cX11_confirmed 125 = .ok (.invokestatic 260, 3) := by decide +kernel
theorem dX11_confirmed_128 : decode cX11_confirmed 128 = .ok (.istore 4, 2) := by decide +kernel
theorem dX11_confirmed_130 : decode cX11_confirmed 130 = .ok (.iinc 5 1, 3) := by decide +kernel
theorem dX11_confirmed_133 : decode cX11_confirmed 133 = .ok (.goto (-81), 3) := by decide +kernel
theorem dX11_confirmed_136 : decode cX11_confirmed 136 = .ok (.aload_n 0, 1) := by decide +kernel
theorem dX11_confirmed_137 : decode cX11_confirmed 137 = .ok (.iload 4, 2) := by decide +kernel
theorem dX11_confirmed_139 : decode cX11_confirmed 139 = .ok (.invokevirtual 174, 3) := by decide +kernel
theorem dX11_confirmed_142 : decode cX11_confirmed 142 = .ok (.ireturn, 1) := by decide +kernel
theorem dX11_fashion_0 : decode cX11_fashion 0 = .ok (.aload_n 0, 1) := by decide +kernel
theorem dX11_fashion_1 : decode cX11_fashion 1 = .ok (.iload_n 1, 1) := by decide +kernel
theorem dX11_fashion_2 : decode cX11_fashion 2 = .ok (.iload_n 2, 1) := by decide +kernel
theorem dX11_fashion_3 : decode cX11_fashion 3 = .ok (.invokevirtual 237, 3) := by decide +kernel
theorem dX11_fashion_6 : decode cX11_fashion 6 = .ok (.ifCond .ne 9, 3) := by decide +kernel
theorem dX11_fashion_9 : decode cX11_fashion 9 = .ok (.aload_n 0, 1) := by decide +kernel
theorem dX11_fashion_10 : decode cX11_fashion 10 = .ok (.iconst 1, 1) := by decide +kernel
theorem dX11_fashion_11 : decode cX11_fashion 11 = .ok (.invokevirtual 126, 3) := by decide +kernel
theorem dX11_fashion_14 : decode cX11_fashion 14 = .ok (.ireturn, 1) := by decide +kernel
theorem dX11_fashion_15 : decode cX11_fashion 15 = .ok (.aload_n 0, 1) := by decide +kernel
theorem dX11_fashion_16 : decode cX11_fashion 16 = .ok (.getfield 61, 3) := by decide +kernel
theorem dX11_fashion_19 : decode cX11_fashion 19 = .ok (.iload_n 1, 1) := by decide +kernel
theorem dX11_fashion_20 : decode cX11_fashion 20 = .ok (.iload_n 2, 1) := by decide +kernel
theorem dX11_fashion_21 : decode cX11_fashion 21 = .ok (.aload_n 0, 1) := by decide +kernel
theorem dX11_fashion_22 : decode cX11_fashion 22 = .ok (.getfield 18, 3) := by decide +kernel
theorem dX11_fashion_25 : decode cX11_fashion 25 = .ok (.getfield 205, 3) := by decide +kernel
theorem dX11_fashion_28 : decode cX11_fashion 28 = .ok (.getfield 209, 3) := by decide +kernel
theorem dX11_fashion_31 : decode cX11_fashion 31 = .ok (.invokevirtual 257, 3) := by decide +kernel
theorem dX11_fashion_34 : decode cX11_fashion 34 = .ok (.istore_n 3, 1) := by decide +kernel
theorem dX11_fashion_35 : decode cX11_fashion 35 = .ok (.iload_n 3, 1) := by decide +kernel
theorem dX11_fashion_36 : decode cX11_fashion 36 = .ok (.iconst (-1), 1) := by decide +kernel
theorem dX11_fashion_37 : decode cX11_fashion 37 = .ok (.if_icmp .ne 12, 3) := by decide +kernel
theorem dX11_fashion_40 : decode cX11_fashion 40 = .ok (.aload_n 0, 1) := by decide +kernel
theorem dX11_fashion_41 : decode cX11_fashion 41 = .ok (.bipush 6, 2) := by decide +kernel
theorem dX11_fashion_43 : decode cX11_fashion 43 = .ok (.invokevirtual 126, 3) := by decide +kernel
theorem dX11_fashion_46 : decode cX11_fashion 46 = .ok (.goto 19, 3) := by decide +kernel
theorem dX11_fashion_49 : decode cX11_fashion 49 = .ok (.aload_n 0, 1) := by decide +kernel
theorem dX11_fashion_50 : decode cX11_fashion 50 = .ok (.aload_n 0, 1) := by decide +kernel
theorem dX11_fashion_51 : decode cX11_fashion 51 = .ok (.getfield 18, 3) := by decide +kernel
theorem dX11_fashion_54 : decode cX11_fashion 54 = .ok (.getfield 205, 3) := by decide +kernel
theorem dX11_fashion_57 : decode cX11_fashion 57 = .ok (.iload_n 2, 1) := by decide +kernel
theorem dX11_fashion_58 : decode cX11_fashion 58 = .ok (.iload_n 3, 1) := by decide +kernel
theorem dX11_fashion_59 : decode cX11_fashion 59 = .ok (.invokevirtual 350, 3) := by decide +kernel
theorem dX11_fashion_62 : decode cX11_fashion 62 = .ok (.invokevirtual 174, 3) := by decide +kernel
theorem dX11_fashion_65 : decode cX11_fashion 65 = .ok (.ireturn, 1) := by decide +kernel
theorem dX11_follows_0 : decode cX11_follows 0 = .ok (.aload_n 0, 1) := by decide +kernel
theorem dX11_follows_1 : decode cX11_follows 1 = .ok (.iload_n 1, 1) := by decide +kernel
theorem dX11_follows_2 : decode cX11_follows 2 = .ok (.iload_n 2, 1) := by decide +kernel
theorem dX11_follows_3 : decode cX11_follows 3 = .ok (.invokevirtual 237, 3) := by decide +kernel
theorem dX11_follows_6 : decode cX11_follows 6 = .ok (.ifCond .ne 9, 3) := by decide +kernel
theorem dX11_follows_9 : decode cX11_follows 9 = .ok (.aload_n 0, 1) := by decide +kernel
theorem dX11_follows_10 : decode cX11_follows 10 = .ok (.iconst 1, 1) := by decide +kernel
theorem dX11_follows_11 : decode cX11_follows 11 = .ok (.invokevirtual 126, 3) := by decide +kernel
theorem dX11_follows_14 : decode cX11_follows 14 = .ok (.ireturn, 1) := by decide +kernel
theorem dX11_follows_15 : decode cX11_follows 15 = .ok (.aload_n 0, 1) := by decide +kernel
theorem dX11_follows_16 : decode cX11_follows 16 = .ok (.aload_n 0, 1) := by decide +kernel
theorem dX11_follows_17 : decode cX11_follows 17 = .ok (.iload_n 1, 1) := by decide +kernel
theorem dX11_follows_18 : decode cX11_follows 18 = .ok (.iload_n 2, 1) := by decide +kernel
theorem dX11_follows_19 : decode cX11_follows 19 = .ok (.invokevirtual 356, 3) := by decide +kernel
theorem dX11_follows_22 : decode cX11_follows 22 = .ok (.invokevirtual 174, 3) := by decide +kernel
theorem dX11_follows_25 : decode cX11_follows 25 = .ok (.ireturn, 1) := by decide +kernel
theorem dX11_model_0 : decode cX11_model 0 = .ok (.aload_n 0, 1) := by decide +kernel
theorem dX11_model_1 : decode cX11_model 1 = .ok (.iload_n 1, 1) := by decide +kernel
theorem dX11_model_2 : decode cX11_model 2 = .ok (.invokevirtual 221, 3) := by decide +kernel
theorem dX11_model_5 : decode cX11_model 5 = .ok (.ifCond .ne 9, 3) := by decide +kernel
theorem dX11_model_8 : decode cX11_model 8 = .ok (.aload_n 0, 1) := by decide +kernel
theorem dX11_model_9 : decode cX11_model 9 = .ok (.iconst 1, 1) := by decide +kernel
theorem dX11_model_10 : decode cX11_model 10 = .ok (.invokevirtual 126, 3) := by decide +kernel
theorem dX11_model_13 : decode cX11_model 13 = .ok (.ireturn, 1) := by decide +kernel
theorem dX11_model_14 : decode cX11_model 14 = .ok (.iconst (-1), 1) := by decide +kernel
theorem dX11_model_15 : decode cX11_model 15 = .ok (.istore_n 2, 1) := by decide +kernel
theorem dX11_model_16 : decode cX11_model 16 = .ok (.iconst (-1), 1) := by decide +kernel
theorem dX11_model_17 : decode cX11_model 17 = .ok (.istore_n 3, 1) := by decide +kernel
theorem dX11_model_18 : decode cX11_model 18 = .ok (.iconst 0, 1) := by decide +kernel
theorem dX11_model_19 : decode cX11_model 19 = .ok (.istore 4, 2) := by decide +kernel
theorem dX11_model_21 : decode cX11_model 21 = .ok (.iload 4, 2) := by decide +kernel
theorem dX11_model_23 : decode cX11_model 23 = .ok (.aload_n 0, 1) := by decide +kernel
theorem dX11_model_24 : decode cX11_model 24 = .ok (.getfield 18, 3) := by decide +kernel
theorem dX11_model_27 : decode cX11_model 27 = .ok (.getfield 54, 3) := by decide +kernel
theorem dX11_model_30 : decode cX11_model 30 = .ok (.getfield 169, 3) := by decide +kernel
theorem dX11_model_33 : decode cX11_model 33 = .ok (.if_icmp .ge 40, 3) := by decide +kernel
theorem dX11_model_36 : decode cX11_model 36 = .ok (.iload 4, 2) := by decide +kernel
theorem dX11_model_38 : decode cX11_model 38 = .ok (.iload_n 1, 1) := by decide +kernel
theorem dX11_model_39 : decode cX11_model 39 = .ok (.if_icmp .ne 7, 3) := by decide +kernel
theorem dX11_model_42 : decode cX11_model 42 = .ok (.iconst (-1), 1) := by decide +kernel
theorem dX11_model_43 : decode cX11_model 43 = .ok (.goto 10, 3) := by decide +kernel
theorem dX11_model_46 : decode cX11_model 46 = .ok (.aload_n 0, 1) := by decide +kernel
theorem dX11_model_47 : decode cX11_model 47 = .ok (.iload_n 1, 1) := by decide +kernel
theorem dX11_model_48 : decode cX11_model 48 = .ok (.iload 4, 2) := by decide +kernel
theorem dX11_model_50 : decode cX11_model 50 = .ok (.invokevirtual 356, 3) := by decide +kernel
theorem dX11_model_53 : decode cX11_model 53 = .ok (.istore 5, 2) := by decide +kernel
theorem dX11_model_55 : decode cX11_model 55 = .ok (.iload 5, 2) := by decide +kernel
theorem dX11_model_57 : decode cX11_model 57 = .ok (.iload_n 3, 1) := by decide +kernel
theorem dX11_model_58 : decode cX11_model 58 = .ok (.if_icmp .le 9, 3) := by decide +kernel
theorem dX11_model_61 : decode cX11_model 61 = .ok (.iload 5, 2) := by decide +kernel
theorem dX11_model_63 : decode cX11_model 63 = .ok (.istore_n 3, 1) := by decide +kernel
theorem dX11_model_64 : decode cX11_model 64 = .ok (.iload 4, 2) := by decide +kernel
theorem dX11_model_66 : decode cX11_model 66 = .ok (.istore_n 2, 1) := by decide +kernel
theorem dX11_model_67 : decode cX11_model 67 = .ok (.iinc 4 1, 3) := by decide +kernel
theorem dX11_model_70 : decode cX11_model 70 = .ok (.goto (-49), 3) := by decide +kernel
theorem dX11_model_73 : decode cX11_model 73 = .ok (.aload_n 0, 1) := by decide +kernel
theorem dX11_model_74 : decode cX11_model 74 = .ok (.iload_n 2, 1) := by decide +kernel
theorem dX11_model_75 : decode cX11_model 75 = .ok (.invokevirtual 251, 3) := by decide +kernel
theorem dX11_model_78 : decode cX11_model 78 = .ok (.ireturn, 1) := by decide +kernel
theorem dX11_sure_0 : decode cX11_sure 0 = .ok (.aload_n 0, 1) := by decide +kernel
theorem dX11_sure_1 : decode cX11_sure 1 = .ok (.iload_n 1, 1) := by decide +kernel
theorem dX11_sure_2 : decode cX11_sure 2 = .ok (.invokevirtual 296, 3) := by decide +kernel
theorem dX11_sure_5 : decode cX11_sure 5 = .ok (.ifCond .eq 12, 3) := by decide +kernel
theorem dX11_sure_8 : decode cX11_sure 8 = .ok (.aload_n 0, 1) := by decide +kernel
theorem dX11_sure_9 : decode cX11_sure 9 = .ok (.iload_n 2, 1) := by decide +kernel
theorem dX11_sure_10 : decode cX11_sure 10 = .ok (.iload_n 3, 1) := by decide +kernel
theorem dX11_sure_11 : decode cX11_sure 11 = .ok (.invokevirtual 237, 3) := by decide +kernel
theorem dX11_sure_14 : decode cX11_sure 14 = .ok (.ifCond .ne 9, 3) := by decide +kernel
theorem dX11_sure_17 : decode cX11_sure 17 = .ok (.aload_n 0, 1) := by decide +kernel
theorem dX11_sure_18 : decode cX11_sure 18 = .ok (.iconst 1, 1) := by decide +kernel
theorem dX11_sure_19 : decode cX11_sure 19 = .ok (.invokevirtual 126, 3) := by decide +kernel
theorem dX11_sure_22 : decode cX11_sure 22 = .ok (.ireturn, 1) := by decide +kernel
theorem dX11_sure_23 : decode cX11_sure 23 = .ok (.aload_n 0, 1) := by decide +kernel
theorem dX11_sure_24 : decode cX11_sure 24 = .ok (.aload_n 0, 1) := by decide +kernel
theorem dX11_sure_25 : decode cX11_sure 25 = .ok (.getfield 61, 3) := by decide +kernel
theorem dX11_sure_28 : decode cX11_sure 28 = .ok (.iload_n 2, 1) := by decide +kernel
theorem dX11_sure_29 : decode cX11_sure 29 = .ok (.aload_n 0, 1) := by decide +kernel
theorem dX11_sure_30 : decode cX11_sure 30 = .ok (.getfield 18, 3) := by decide +kernel
theorem dX11_sure_33 : decode cX11_sure 33 = .ok (.getfield 205, 3) := by decide +kernel
theorem dX11_sure_36 : decode cX11_sure 36 = .ok (.iload_n 1, 1) := by decide +kernel
theorem dX11_sure_37 : decode cX11_sure 37 = .ok (.iload_n 2, 1) := by decide +kernel
theorem dX11_sure_38 : decode cX11_sure 38 = .ok (.invokevirtual 305, 3) := by decide +kernel
theorem dX11_sure_41 : decode cX11_sure 41 = .ok (.iload_n 3, 1) := by decide +kernel
theorem dX11_sure_42 : decode cX11_sure 42 = .ok (.invokevirtual 247, 3) := by decide +kernel
theorem dX11_sure_45 : decode cX11_sure 45 = .ok (.invokevirtual 251, 3) := by decide +kernel
theorem dX11_sure_48 : decode cX11_sure 48 = .ok (.ireturn, 1) := by decide +kernel
theorem dX11_weeksFollowed_0 : decode cX11_weeksFollowed 0 = .ok (.aload_n 0, 1) := by decide +kernel
theorem dX11_weeksFollowed_1 : decode cX11_weeksFollowed 1 = .ok (.getfield 18, 3) := by decide +kernel
theorem dX11_weeksFollowed_4 : decode cX11_weeksFollowed 4 = .ok (.getfield 205, 3) := by decide +kernel
theorem dX11_weeksFollowed_7 : decode cX11_weeksFollowed 7 = .ok (.astore_n 3, 1) := by decide +kernel
theorem dX11_weeksFollowed_8 : decode cX11_weeksFollowed 8 = .ok (.iconst 0, 1) := by decide +kernel
theorem dX11_weeksFollowed_9 : decode cX11_weeksFollowed 9 = .ok (.istore 4, 2) := by decide +kernel
theorem dX11_weeksFollowed_11 : decode cX11_weeksFollowed 11 = .ok (.iconst 1, 1) := by decide +kernel
theorem dX11_weeksFollowed_12 : decode cX11_weeksFollowed 12 = .ok (.istore 5, 2) := by decide +kernel
theorem dX11_weeksFollowed_14 : decode cX11_weeksFollowed 14 = .ok (.iload 5, 2) := by decide +kernel
theorem dX11_weeksFollowed_16 : decode cX11_weeksFollowed 16 = .ok (.aload_n 3, 1) := by decide +kernel
theorem dX11_weeksFollowed_17 : decode cX11_weeksFollowed 17 = .ok (.getfield 209, 3) := by decide +kernel
theorem dX11_weeksFollowed_20 : decode cX11_weeksFollowed 20 = .ok (.if_icmp .gt 48, 3) := by decide +kernel
theorem dX11_weeksFollowed_23 : decode cX11_weeksFollowed 23 = .ok (.aload_n 0, 1) := by decide +kernel
theorem dX11_weeksFollowed_24 : decode cX11_weeksFollowed 24 = .ok (.getfield 61, 3) := by decide +kernel
theorem dX11_weeksFollowed_27 : decode cX11_weeksFollowed 27 = .ok (.iload_n 1, 1) := by decide +kernel
theorem dX11_weeksFollowed_28 : decode cX11_weeksFollowed 28 = .ok (.iload_n 2, 1) := by decide +kernel
theorem dX11_weeksFollowed_29 : decode cX11_weeksFollowed 29 = .ok (.iload 5, 2) := by decide +kernel
theorem dX11_weeksFollowed_31 : decode cX11_weeksFollowed 31 = .ok (.invokevirtual 257, 3) := by decide +kernel
theorem dX11_weeksFollowed_34 : decode cX11_weeksFollowed 34 = .ok (.istore 6, 2) := by decide +kernel
theorem dX11_weeksFollowed_36 : decode cX11_weeksFollowed 36 = .ok (.iload 6, 2) := by decide +kernel
theorem dX11_weeksFollowed_38 : decode cX11_weeksFollowed 38 = .ok (.iconst (-1), 1) := by decide +kernel
theorem dX11_weeksFollowed_39 : decode cX11_weeksFollowed 39 = .ok (.if_icmp .eq 23, 3) := by decide +kernel
theorem dX11_weeksFollowed_42 : decode cX11_weeksFollowed 42 = .ok (.aload_n 3, 1) := by decide +kernel
theorem dX11_weeksFollowed_43 : decode cX11_weeksFollowed 43 = .ok (.iload_n 1, 1) := by decide +kernel
theorem dX11_weeksFollowed_44 : decode cX11_weeksFollowed 44 = .ok (.iload 5, 2) := by decide +kernel
theorem dX11_weeksFollowed_46 : decode cX11_weeksFollowed 46 = .ok (.invokevirtual 350, 3) := by decide +kernel
theorem dX11_weeksFollowed_49 : decode cX11_weeksFollowed 49 = .ok (.aload_n 3, 1) := by decide +kernel
theorem dX11_weeksFollowed_50 : decode cX11_weeksFollowed 50 = .ok (.iload_n 2, 1) := by decide +kernel
theorem dX11_weeksFollowed_51 : decode cX11_weeksFollowed 51 = .ok (.iload 6, 2) := by decide +kernel
theorem dX11_weeksFollowed_53 : decode cX11_weeksFollowed 53 = .ok (.invokevirtual 350, 3) := by decide +kernel
theorem dX11_weeksFollowed_56 : decode cX11_weeksFollowed 56 = .ok (.if_icmp .ne 6, 3) := by decide +kernel
theorem dX11_weeksFollowed_59 : decode cX11_weeksFollowed 59 = .ok (.iinc 4 1, 3) := by decide +kernel
theorem dX11_weeksFollowed_62 : decode cX11_weeksFollowed 62 = .ok (.iinc 5 1, 3) := by decide +kernel
theorem dX11_weeksFollowed_65 : decode cX11_weeksFollowed 65 = .ok (.goto (-51), 3) := by decide +kernel
theorem dX11_weeksFollowed_68 : decode cX11_weeksFollowed 68 = .ok (.iload 4, 2) := by decide +kernel
theorem dX11_weeksFollowed_70 : decode cX11_weeksFollowed 70 = .ok (.ireturn, 1) := by decide +kernel
