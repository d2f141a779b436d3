/-! Decode rows of Pl. -/
theorem d_Pl_init_0 : decode b_Pl_init 0 = .ok (.aload_n 0, 1) := by decide +kernel
theorem d_Pl_init_1 : decode b_Pl_init 1 = .ok (.invokespecial 1, 3) := by decide +kernel
theorem d_Pl_init_4 : decode b_Pl_init 4 = .ok (.aload_n 0, 1) := by decide +kernel
theorem d_Pl_init_5 : decode b_Pl_init 5 = .ok (.lload_n 1, 1) := by decide +kernel
theorem d_Pl_init_6 : decode b_Pl_init 6 = .ok (.putfield 7, 3) := by decide +kernel
theorem d_Pl_init_9 : decode b_Pl_init 9 = .ok (.aload_n 0, 1) := by decide +kernel
theorem d_Pl_init_10 : decode b_Pl_init 10 = .ok (.lload_n 3, 1) := by decide +kernel
theorem d_Pl_init_11 : decode b_Pl_init 11 = .ok (.putfield 13, 3) := by decide +kernel
theorem d_Pl_init_14 : decode b_Pl_init 14 = .ok (.aload_n 0, 1) := by decide +kernel
theorem d_Pl_init_15 : decode b_Pl_init 15 = .ok (.lload 5, 2) := by decide +kernel
theorem d_Pl_init_17 : decode b_Pl_init 17 = .ok (.putfield 16, 3) := by decide +kernel
theorem d_Pl_init_20 : decode b_Pl_init 20 = .ok (.aload_n 0, 1) := by decide +kernel
theorem d_Pl_init_21 : decode b_Pl_init 21 = .ok (.lload 7, 2) := by decide +kernel
theorem d_Pl_init_23 : decode b_Pl_init 23 = .ok (.putfield 19, 3) := by decide +kernel
theorem d_Pl_init_26 : decode b_Pl_init 26 = .ok (.return_, 1) := by decide +kernel
theorem d_Pl_factor_0 : decode b_Pl_factor 0 = .ok (.iload_n 1, 1) := by decide +kernel
theorem d_Pl_factor_1 : decode b_Pl_factor 1 = .ok (.ifCond .ne 8, 3) := by decide +kernel
theorem d_Pl_factor_4 : decode b_Pl_factor 4 = .ok (.aload_n 0, 1) := by decide +kernel
theorem d_Pl_factor_5 : decode b_Pl_factor 5 = .ok (.getfield 7, 3) := by decide +kernel
theorem d_Pl_factor_8 : decode b_Pl_factor 8 = .ok (.lreturn, 1) := by decide +kernel
theorem d_Pl_factor_9 : decode b_Pl_factor 9 = .ok (.iload_n 1, 1) := by decide +kernel
theorem d_Pl_factor_10 : decode b_Pl_factor 10 = .ok (.iconst 1, 1) := by decide +kernel
theorem d_Pl_factor_11 : decode b_Pl_factor 11 = .ok (.if_icmp .ne 10, 3) := by decide +kernel
theorem d_Pl_factor_14 : decode b_Pl_factor 14 = .ok (.aload_n 0, 1) := by decide +kernel
theorem d_Pl_factor_15 : decode b_Pl_factor 15 = .ok (.getfield 13, 3) := by decide +kernel
theorem d_Pl_factor_18 : decode b_Pl_factor 18 = .ok (.goto 7, 3) := by decide +kernel
theorem d_Pl_factor_21 : decode b_Pl_factor 21 = .ok (.aload_n 0, 1) := by decide +kernel
theorem d_Pl_factor_22 : decode b_Pl_factor 22 = .ok (.getfield 16, 3) := by decide +kernel
theorem d_Pl_factor_25 : decode b_Pl_factor 25 = .ok (.lreturn, 1) := by decide +kernel
theorem d_Pl_excess_0 : decode b_Pl_excess 0 = .ok (.aload_n 0, 1) := by decide +kernel
theorem d_Pl_excess_1 : decode b_Pl_excess 1 = .ok (.getfield 7, 3) := by decide +kernel
theorem d_Pl_excess_4 : decode b_Pl_excess 4 = .ok (.aload_n 1, 1) := by decide +kernel
theorem d_Pl_excess_5 : decode b_Pl_excess 5 = .ok (.getfield 22, 3) := by decide +kernel
theorem d_Pl_excess_8 : decode b_Pl_excess 8 = .ok (.lmul, 1) := by decide +kernel
theorem d_Pl_excess_9 : decode b_Pl_excess 9 = .ok (.aload_n 0, 1) := by decide +kernel
theorem d_Pl_excess_10 : decode b_Pl_excess 10 = .ok (.getfield 13, 3) := by decide +kernel
theorem d_Pl_excess_13 : decode b_Pl_excess 13 = .ok (.aload_n 1, 1) := by decide +kernel
theorem d_Pl_excess_14 : decode b_Pl_excess 14 = .ok (.getfield 27, 3) := by decide +kernel
theorem d_Pl_excess_17 : decode b_Pl_excess 17 = .ok (.lmul, 1) := by decide +kernel
theorem d_Pl_excess_18 : decode b_Pl_excess 18 = .ok (.ladd, 1) := by decide +kernel
theorem d_Pl_excess_19 : decode b_Pl_excess 19 = .ok (.aload_n 0, 1) := by decide +kernel
theorem d_Pl_excess_20 : decode b_Pl_excess 20 = .ok (.getfield 16, 3) := by decide +kernel
theorem d_Pl_excess_23 : decode b_Pl_excess 23 = .ok (.aload_n 1, 1) := by decide +kernel
theorem d_Pl_excess_24 : decode b_Pl_excess 24 = .ok (.getfield 30, 3) := by decide +kernel
theorem d_Pl_excess_27 : decode b_Pl_excess 27 = .ok (.lmul, 1) := by decide +kernel
theorem d_Pl_excess_28 : decode b_Pl_excess 28 = .ok (.ladd, 1) := by decide +kernel
theorem d_Pl_excess_29 : decode b_Pl_excess 29 = .ok (.aload_n 0, 1) := by decide +kernel
theorem d_Pl_excess_30 : decode b_Pl_excess 30 = .ok (.getfield 19, 3) := by decide +kernel
theorem d_Pl_excess_33 : decode b_Pl_excess 33 = .ok (.aload_n 1, 1) := by decide +kernel
theorem d_Pl_excess_34 : decode b_Pl_excess 34 = .ok (.getfield 33, 3) := by decide +kernel
theorem d_Pl_excess_37 : decode b_Pl_excess 37 = .ok (.lmul, 1) := by decide +kernel
theorem d_Pl_excess_38 : decode b_Pl_excess 38 = .ok (.lsub, 1) := by decide +kernel
theorem d_Pl_excess_39 : decode b_Pl_excess 39 = .ok (.lreturn, 1) := by decide +kernel
theorem d_Pl_isOneWith_0 : decode b_Pl_isOneWith 0 = .ok (.aload_n 0, 1) := by decide +kernel
theorem d_Pl_isOneWith_1 : decode b_Pl_isOneWith 1 = .ok (.getfield 7, 3) := by decide +kernel
theorem d_Pl_isOneWith_4 : decode b_Pl_isOneWith 4 = .ok (.aload_n 1, 1) := by decide +kernel
theorem d_Pl_isOneWith_5 : decode b_Pl_isOneWith 5 = .ok (.getfield 13, 3) := by decide +kernel
theorem d_Pl_isOneWith_8 : decode b_Pl_isOneWith 8 = .ok (.lmul, 1) := by decide +kernel
theorem d_Pl_isOneWith_9 : decode b_Pl_isOneWith 9 = .ok (.aload_n 0, 1) := by decide +kernel
theorem d_Pl_isOneWith_10 : decode b_Pl_isOneWith 10 = .ok (.getfield 13, 3) := by decide +kernel
theorem d_Pl_isOneWith_13 : decode b_Pl_isOneWith 13 = .ok (.aload_n 1, 1) := by decide +kernel
theorem d_Pl_isOneWith_14 : decode b_Pl_isOneWith 14 = .ok (.getfield 7, 3) := by decide +kernel
theorem d_Pl_isOneWith_17 : decode b_Pl_isOneWith 17 = .ok (.lmul, 1) := by decide +kernel
theorem d_Pl_isOneWith_18 : decode b_Pl_isOneWith 18 = .ok (.lcmp, 1) := by decide +kernel
theorem d_Pl_isOneWith_19 : decode b_Pl_isOneWith 19 = .ok (.ifCond .ne 117, 3) := by decide +kernel
theorem d_Pl_isOneWith_22 : decode b_Pl_isOneWith 22 = .ok (.aload_n 0, 1) := by decide +kernel
theorem d_Pl_isOneWith_23 : decode b_Pl_isOneWith 23 = .ok (.getfield 7, 3) := by decide +kernel
theorem d_Pl_isOneWith_26 : decode b_Pl_isOneWith 26 = .ok (.aload_n 1, 1) := by decide +kernel
theorem d_Pl_isOneWith_27 : decode b_Pl_isOneWith 27 = .ok (.getfield 16, 3) := by decide +kernel
theorem d_Pl_isOneWith_30 : decode b_Pl_isOneWith 30 = .ok (.lmul, 1) := by decide +kernel
theorem d_Pl_isOneWith_31 : decode b_Pl_isOneWith 31 = .ok (.aload_n 0, 1) := by decide +kernel
theorem d_Pl_isOneWith_32 : decode b_Pl_isOneWith 32 = .ok (.getfield 16, 3) := by decide +kernel
theorem d_Pl_isOneWith_35 : decode b_Pl_isOneWith 35 = .ok (.aload_n 1, 1) := by decide +kernel
theorem d_Pl_isOneWith_36 : decode b_Pl_isOneWith 36 = .ok (.getfield 7, 3) := by decide +kernel
theorem d_Pl_isOneWith_39 : decode b_Pl_isOneWith 39 = .ok (.lmul, 1) := by decide +kernel
theorem d_Pl_isOneWith_40 : decode b_Pl_isOneWith 40 = .ok (.lcmp, 1) := by decide +kernel
theorem d_Pl_isOneWith_41 : decode b_Pl_isOneWith 41 = .ok (.ifCond .ne 95, 3) := by decide +kernel
theorem d_Pl_isOneWith_44 : decode b_Pl_isOneWith 44 = .ok (.aload_n 0, 1) := by decide +kernel
theorem d_Pl_isOneWith_45 : decode b_Pl_isOneWith 45 = .ok (.getfield 13, 3) := by decide +kernel
theorem d_Pl_isOneWith_48 : decode b_Pl_isOneWith 48 = .ok (.aload_n 1, 1) := by decide +kernel
theorem d_Pl_isOneWith_49 : decode b_Pl_isOneWith 49 = .ok (.getfield 16, 3) := by decide +kernel
theorem d_Pl_isOneWith_52 : decode b_Pl_isOneWith 52 = .ok (.lmul, 1) := by decide +kernel
theorem d_Pl_isOneWith_53 : decode b_Pl_isOneWith 53 = .ok (.aload_n 0, 1) := by decide +kernel
theorem d_Pl_isOneWith_54 : decode b_Pl_isOneWith 54 = .ok (.getfield 16, 3) := by decide +kernel
theorem d_Pl_isOneWith_57 : decode b_Pl_isOneWith 57 = .ok (.aload_n 1, 1) := by decide +kernel
theorem d_Pl_isOneWith_58 : decode b_Pl_isOneWith 58 = .ok (.getfield 13, 3) := by decide +kernel
theorem d_Pl_isOneWith_61 : decode b_Pl_isOneWith 61 = .ok (.lmul, 1) := by decide +kernel
theorem d_Pl_isOneWith_62 : decode b_Pl_isOneWith 62 = .ok (.lcmp, 1) := by decide +kernel
theorem d_Pl_isOneWith_63 : decode b_Pl_isOneWith 63 = .ok (.ifCond .ne 73, 3) := by decide +kernel
theorem d_Pl_isOneWith_66 : decode b_Pl_isOneWith 66 = .ok (.aload_n 0, 1) := by decide +kernel
theorem d_Pl_isOneWith_67 : decode b_Pl_isOneWith 67 = .ok (.getfield 7, 3) := by decide +kernel
theorem d_Pl_isOneWith_70 : decode b_Pl_isOneWith 70 = .ok (.aload_n 1, 1) := by decide +kernel
theorem d_Pl_isOneWith_71 : decode b_Pl_isOneWith 71 = .ok (.getfield 19, 3) := by decide +kernel
theorem d_Pl_isOneWith_74 : decode b_Pl_isOneWith 74 = .ok (.lmul, 1) := by decide +kernel
theorem d_Pl_isOneWith_75 : decode b_Pl_isOneWith 75 = .ok (.aload_n 0, 1) := by decide +kernel
theorem d_Pl_isOneWith_76 : decode b_Pl_isOneWith 76 = .ok (.getfield 19, 3) := by decide +kernel
theorem d_Pl_isOneWith_79 : decode b_Pl_isOneWith 79 = .ok (.aload_n 1, 1) := by decide +kernel
theorem d_Pl_isOneWith_80 : decode b_Pl_isOneWith 80 = .ok (.getfield 7, 3) := by decide +kernel
theorem d_Pl_isOneWith_83 : decode b_Pl_isOneWith 83 = .ok (.lmul, 1) := by decide +kernel
theorem d_Pl_isOneWith_84 : decode b_Pl_isOneWith 84 = .ok (.lcmp, 1) := by decide +kernel
theorem d_Pl_isOneWith_85 : decode b_Pl_isOneWith 85 = .ok (.ifCond .ne 51, 3) := by decide +kernel
theorem d_Pl_isOneWith_88 : decode b_Pl_isOneWith 88 = .ok (.aload_n 0, 1) := by decide +kernel
theorem d_Pl_isOneWith_89 : decode b_Pl_isOneWith 89 = .ok (.getfield 13, 3) := by decide +kernel
theorem d_Pl_isOneWith_92 : decode b_Pl_isOneWith 92 = .ok (.aload_n 1, 1) := by decide +kernel
theorem d_Pl_isOneWith_93 : decode b_Pl_isOneWith 93 = .ok (.getfield 19, 3) := by decide +kernel
theorem d_Pl_isOneWith_96 : decode b_Pl_isOneWith 96 = .ok (.lmul, 1) := by decide +kernel
theorem d_Pl_isOneWith_97 : decode b_Pl_isOneWith 97 = .ok (.aload_n 0, 1) := by decide +kernel
theorem d_Pl_isOneWith_98 : decode b_Pl_isOneWith 98 = .ok (.getfield 19, 3) := by decide +kernel
theorem d_Pl_isOneWith_101 : decode b_Pl_isOneWith 101 = .ok (.aload_n 1, 1) := by decide +kernel
theorem d_Pl_isOneWith_102 : decode b_Pl_isOneWith 102 = .ok (.getfield 13, 3) := by decide +kernel
theorem d_Pl_isOneWith_105 : decode b_Pl_isOneWith 105 = .ok (.lmul, 1) := by decide +kernel
theorem d_Pl_isOneWith_106 : decode b_Pl_isOneWith 106 = .ok (.lcmp, 1) := by decide +kernel
theorem d_Pl_isOneWith_107 : decode b_Pl_isOneWith 107 = .ok (.ifCond .ne 29, 3) := by decide +kernel
theorem d_Pl_isOneWith_110 : decode b_Pl_isOneWith 110 = .ok (.aload_n 0, 1) := by decide +kernel
theorem d_Pl_isOneWith_111 : decode b_Pl_isOneWith 111 = .ok (.getfield 16, 3) := by decide +kernel
theorem d_Pl_isOneWith_114 : decode b_Pl_isOneWith 114 = .ok (.aload_n 1, 1) := by decide +kernel
theorem d_Pl_isOneWith_115 : decode b_Pl_isOneWith 115 = .ok (.getfield 19, 3) := by decide +kernel
theorem d_Pl_isOneWith_118 : decode b_Pl_isOneWith 118 = .ok (.lmul, 1) := by decide +kernel
theorem d_Pl_isOneWith_119 : decode b_Pl_isOneWith 119 = .ok (.aload_n 0, 1) := by decide +kernel
theorem d_Pl_isOneWith_120 : decode b_Pl_isOneWith 120 = .ok (.getfield 19, 3) := by decide +kernel
theorem d_Pl_isOneWith_123 : decode b_Pl_isOneWith 123 = .ok (.aload_n 1, 1) := by decide +kernel
theorem d_Pl_isOneWith_124 : decode b_Pl_isOneWith 124 = .ok (.getfield 16, 3) := by decide +kernel
theorem d_Pl_isOneWith_127 : decode b_Pl_isOneWith 127 = .ok (.lmul, 1) := by decide +kernel
theorem d_Pl_isOneWith_128 : decode b_Pl_isOneWith 128 = .ok (.lcmp, 1) := by decide +kernel
theorem d_Pl_isOneWith_129 : decode b_Pl_isOneWith 129 = .ok (.ifCond .ne 7, 3) := by decide +kernel
theorem d_Pl_isOneWith_132 : decode b_Pl_isOneWith 132 = .ok (.iconst 1, 1) := by decide +kernel
theorem d_Pl_isOneWith_133 : decode b_Pl_isOneWith 133 = .ok (.goto 4, 3) := by decide +kernel
theorem d_Pl_isOneWith_136 : decode b_Pl_isOneWith 136 = .ok (.iconst 0, 1) := by decide +kernel
theorem d_Pl_isOneWith_137 : decode b_Pl_isOneWith 137 = .ok (.ireturn, 1) := by decide +kernel
theorem d_Pl_looksLike_0 : decode b_Pl_looksLike 0 = .ok (.aload_n 0, 1) := by decide +kernel
theorem d_Pl_looksLike_1 : decode b_Pl_looksLike 1 = .ok (.getfield 7, 3) := by decide +kernel
theorem d_Pl_looksLike_4 : decode b_Pl_looksLike 4 = .ok (.aload_n 1, 1) := by decide +kernel
theorem d_Pl_looksLike_5 : decode b_Pl_looksLike 5 = .ok (.getfield 7, 3) := by decide +kernel
theorem d_Pl_looksLike_8 : decode b_Pl_looksLike 8 = .ok (.lmul, 1) := by decide +kernel
theorem d_Pl_looksLike_9 : decode b_Pl_looksLike 9 = .ok (.aload_n 0, 1) := by decide +kernel
theorem d_Pl_looksLike_10 : decode b_Pl_looksLike 10 = .ok (.getfield 13, 3) := by decide +kernel
theorem d_Pl_looksLike_13 : decode b_Pl_looksLike 13 = .ok (.aload_n 1, 1) := by decide +kernel
theorem d_Pl_looksLike_14 : decode b_Pl_looksLike 14 = .ok (.getfield 13, 3) := by decide +kernel
theorem d_Pl_looksLike_17 : decode b_Pl_looksLike 17 = .ok (.lmul, 1) := by decide +kernel
theorem d_Pl_looksLike_18 : decode b_Pl_looksLike 18 = .ok (.ladd, 1) := by decide +kernel
theorem d_Pl_looksLike_19 : decode b_Pl_looksLike 19 = .ok (.aload_n 0, 1) := by decide +kernel
theorem d_Pl_looksLike_20 : decode b_Pl_looksLike 20 = .ok (.getfield 16, 3) := by decide +kernel
theorem d_Pl_looksLike_23 : decode b_Pl_looksLike 23 = .ok (.aload_n 1, 1) := by decide +kernel
theorem d_Pl_looksLike_24 : decode b_Pl_looksLike 24 = .ok (.getfield 16, 3) := by decide +kernel
theorem d_Pl_looksLike_27 : decode b_Pl_looksLike 27 = .ok (.lmul, 1) := by decide +kernel
theorem d_Pl_looksLike_28 : decode b_Pl_looksLike 28 = .ok (.ladd, 1) := by decide +kernel
theorem d_Pl_looksLike_29 : decode b_Pl_looksLike 29 = .ok (.lconst 0, 1) := by decide +kernel
theorem d_Pl_looksLike_30 : decode b_Pl_looksLike 30 = .ok (.lcmp, 1) := by decide +kernel
theorem d_Pl_looksLike_31 : decode b_Pl_looksLike 31 = .ok (.ifCond .le 7, 3) := by decide +kernel
theorem d_Pl_looksLike_34 : decode b_Pl_looksLike 34 = .ok (.iconst 1, 1) := by decide +kernel
theorem d_Pl_looksLike_35 : decode b_Pl_looksLike 35 = .ok (.goto 4, 3) := by decide +kernel
theorem d_Pl_looksLike_38 : decode b_Pl_looksLike 38 = .ok (.iconst 0, 1) := by decide +kernel
theorem d_Pl_looksLike_39 : decode b_Pl_looksLike 39 = .ok (.ireturn, 1) := by decide +kernel
