theorem dL_law_0 : decode cL_law 0 = .ok (.new 7, 3) := by decide +kernel
theorem dL_law_3 : decode cL_law 3 = .ok (.dup, 1) := by decide +kernel
theorem dL_law_4 : decode cL_law 4 = .ok (.invokespecial 9, 3) := by decide +kernel
theorem dL_law_7 : decode cL_law 7 = .ok (.astore_n 1, 1) := by decide +kernel
theorem dL_law_8 : decode cL_law 8 = .ok (.new 10, 3) := by decide +kernel
theorem dL_law_11 : decode cL_law 11 = .ok (.dup, 1) := by decide +kernel
theorem dL_law_12 : decode cL_law 12 = .ok (.invokespecial 12, 3) := by decide +kernel
theorem dL_law_15 : decode cL_law 15 = .ok (.astore_n 2, 1) := by decide +kernel
theorem dL_law_16 : decode cL_law 16 = .ok (.iconst 0, 1) := fq1_3 (fl_0 (j := 16) rfl rfl)
theorem dL_law_17 : decode cL_law 17 = .ok (.istore_n 3, 1) := by decide +kernel
theorem dL_law_18 : decode cL_law 18 = .ok (.iload_n 3, 1) := fq1_29 (fl_0 (j := 18) rfl rfl)
theorem dL_law_19 : decode cL_law 19 = .ok (.aload_n 0, 1) := fq1_42 (fl_0 (j := 19) rfl rfl)
theorem dL_law_20 : decode cL_law 20 = .ok (.arraylength, 1) := by decide +kernel
theorem dL_law_21 : decode cL_law 21 = .ok (.bipush 6, 2) := by decide +kernel
theorem dL_law_23 : decode cL_law 23 = .ok (.isub, 1) := by decide +kernel
theorem dL_law_24 : decode cL_law 24 = .ok (.if_icmp .gt 2828, 3) := by decide +kernel
theorem dL_law_27 : decode cL_law 27 = .ok (.aload_n 0, 1) := fq1_42 (fl_0 (j := 27) rfl rfl)
theorem dL_law_28 : decode cL_law 28 = .ok (.iload_n 3, 1) := fq1_29 (fl_0 (j := 28) rfl rfl)
theorem dL_law_29 : decode cL_law 29 = .ok (.iaload, 1) := fq1_46 (fl_0 (j := 29) rfl rfl)
theorem dL_law_30 : decode cL_law 30 = .ok (.bipush 127, 2) := by decide +kernel
theorem dL_law_32 : decode cL_law 32 = .ok (.iand, 1) := by decide +kernel
theorem dL_law_33 : decode cL_law 33 = .ok (.tableswitch 2813 0 73 #[311, 324, 337, 350, 393, 466, 499, 562, 625, 648, 671, 694, 717, 750, 783, 816, 869, 912, 955, 998, 1041, 1074, 1127, 1150, 1193, 1216, 1269, 1312, 1355, 1398, 1441, 1474, 1517, 1550, 1573, 1606, 1639, 1662, 1685, 1718, 1751, 1784, 1817, 1860, 1893, 1906, 1929, 1962, 1995, 2008, 2051, 2094, 2127, 2160, 2203, 2256, 2289, 2332, 2375, 2418, 2451, 2494, 2517, 2550, 2583, 2616, 2649, 2672, 2695, 2708, 2731, 2754, 2787, 2800], 311) := by decide +kernel
theorem dL_law_2846 : decode cL_law 2846 = .ok (.iinc 3 6, 3) := by decide +kernel
theorem dL_law_2849 : decode cL_law 2849 = .ok (.goto (-2831), 3) := fq3_167 (fl_44 (j := 33) rfl rfl) (fl_44 (j := 34) rfl rfl) (fl_44 (j := 35) rfl rfl) (by decide)
theorem dL_law_2852 : decode cL_law 2852 = .ok (.iconst 1, 1) := fq1_4 (fl_44 (j := 36) rfl rfl)
theorem dL_law_2853 : decode cL_law 2853 = .ok (.ireturn, 1) := by decide +kernel
