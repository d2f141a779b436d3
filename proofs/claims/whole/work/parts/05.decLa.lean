/-! Decode rows of La. -/
theorem d_La_plane_0 : decode b_La_plane 0 = .ok (.aload 5, 2) := by decide +kernel
theorem d_La_plane_2 : decode b_La_plane 2 = .ok (.iconst 0, 1) := by decide +kernel
theorem d_La_plane_3 : decode b_La_plane 3 = .ok (.aload_n 0, 1) := by decide +kernel
theorem d_La_plane_4 : decode b_La_plane 4 = .ok (.iload_n 1, 1) := by decide +kernel
theorem d_La_plane_5 : decode b_La_plane 5 = .ok (.iload_n 2, 1) := by decide +kernel
theorem d_La_plane_6 : decode b_La_plane 6 = .ok (.iload_n 3, 1) := by decide +kernel
theorem d_La_plane_7 : decode b_La_plane 7 = .ok (.iload 4, 2) := by decide +kernel
theorem d_La_plane_9 : decode b_La_plane 9 = .ok (.invokevirtual 7, 3) := by decide +kernel
theorem d_La_plane_12 : decode b_La_plane 12 = .ok (.i2l, 1) := by decide +kernel
theorem d_La_plane_13 : decode b_La_plane 13 = .ok (.lastore, 1) := by decide +kernel
theorem d_La_plane_14 : decode b_La_plane 14 = .ok (.goto 11, 3) := by decide +kernel
theorem d_La_plane_17 : decode b_La_plane 17 = .ok (.astore 6, 2) := by decide +kernel
theorem d_La_plane_19 : decode b_La_plane 19 = .ok (.iconst 1, 1) := by decide +kernel
theorem d_La_plane_20 : decode b_La_plane 20 = .ok (.ireturn, 1) := by decide +kernel
theorem d_La_plane_21 : decode b_La_plane 21 = .ok (.astore 6, 2) := by decide +kernel
theorem d_La_plane_23 : decode b_La_plane 23 = .ok (.iconst 2, 1) := by decide +kernel
theorem d_La_plane_24 : decode b_La_plane 24 = .ok (.ireturn, 1) := by decide +kernel
theorem d_La_plane_25 : decode b_La_plane 25 = .ok (.iconst 0, 1) := by decide +kernel
theorem d_La_plane_26 : decode b_La_plane 26 = .ok (.ireturn, 1) := by decide +kernel
theorem d_La_convex_0 : decode b_La_convex 0 = .ok (.aload_n 2, 1) := by decide +kernel
theorem d_La_convex_1 : decode b_La_convex 1 = .ok (.iconst 0, 1) := by decide +kernel
theorem d_La_convex_2 : decode b_La_convex 2 = .ok (.aload_n 0, 1) := by decide +kernel
theorem d_La_convex_3 : decode b_La_convex 3 = .ok (.iload_n 1, 1) := by decide +kernel
theorem d_La_convex_4 : decode b_La_convex 4 = .ok (.invokevirtual 17, 3) := by decide +kernel
theorem d_La_convex_7 : decode b_La_convex 7 = .ok (.i2l, 1) := by decide +kernel
theorem d_La_convex_8 : decode b_La_convex 8 = .ok (.lastore, 1) := by decide +kernel
theorem d_La_convex_9 : decode b_La_convex 9 = .ok (.goto 9, 3) := by decide +kernel
theorem d_La_convex_12 : decode b_La_convex 12 = .ok (.astore_n 3, 1) := by decide +kernel
theorem d_La_convex_13 : decode b_La_convex 13 = .ok (.iconst 1, 1) := by decide +kernel
theorem d_La_convex_14 : decode b_La_convex 14 = .ok (.ireturn, 1) := by decide +kernel
theorem d_La_convex_15 : decode b_La_convex 15 = .ok (.astore_n 3, 1) := by decide +kernel
theorem d_La_convex_16 : decode b_La_convex 16 = .ok (.iconst 2, 1) := by decide +kernel
theorem d_La_convex_17 : decode b_La_convex 17 = .ok (.ireturn, 1) := by decide +kernel
theorem d_La_convex_18 : decode b_La_convex 18 = .ok (.iconst 0, 1) := by decide +kernel
theorem d_La_convex_19 : decode b_La_convex 19 = .ok (.ireturn, 1) := by decide +kernel
theorem d_La_join_0 : decode b_La_join 0 = .ok (.aload_n 2, 1) := by decide +kernel
theorem d_La_join_1 : decode b_La_join 1 = .ok (.iconst 0, 1) := by decide +kernel
theorem d_La_join_2 : decode b_La_join 2 = .ok (.aload_n 0, 1) := by decide +kernel
theorem d_La_join_3 : decode b_La_join 3 = .ok (.iload_n 1, 1) := by decide +kernel
theorem d_La_join_4 : decode b_La_join 4 = .ok (.invokevirtual 21, 3) := by decide +kernel
theorem d_La_join_7 : decode b_La_join 7 = .ok (.i2l, 1) := by decide +kernel
theorem d_La_join_8 : decode b_La_join 8 = .ok (.lastore, 1) := by decide +kernel
theorem d_La_join_9 : decode b_La_join 9 = .ok (.goto 9, 3) := by decide +kernel
theorem d_La_join_12 : decode b_La_join 12 = .ok (.astore_n 3, 1) := by decide +kernel
theorem d_La_join_13 : decode b_La_join 13 = .ok (.iconst 1, 1) := by decide +kernel
theorem d_La_join_14 : decode b_La_join 14 = .ok (.ireturn, 1) := by decide +kernel
theorem d_La_join_15 : decode b_La_join 15 = .ok (.astore_n 3, 1) := by decide +kernel
theorem d_La_join_16 : decode b_La_join 16 = .ok (.iconst 2, 1) := by decide +kernel
theorem d_La_join_17 : decode b_La_join 17 = .ok (.ireturn, 1) := by decide +kernel
theorem d_La_join_18 : decode b_La_join 18 = .ok (.iconst 0, 1) := by decide +kernel
theorem d_La_join_19 : decode b_La_join 19 = .ok (.ireturn, 1) := by decide +kernel
theorem d_La_turn_0 : decode b_La_turn 0 = .ok (.aload_n 0, 1) := by decide +kernel
theorem d_La_turn_1 : decode b_La_turn 1 = .ok (.invokevirtual 24, 3) := by decide +kernel
theorem d_La_turn_4 : decode b_La_turn 4 = .ok (.goto 6, 3) := by decide +kernel
theorem d_La_turn_7 : decode b_La_turn 7 = .ok (.astore_n 1, 1) := by decide +kernel
theorem d_La_turn_8 : decode b_La_turn 8 = .ok (.iconst 1, 1) := by decide +kernel
theorem d_La_turn_9 : decode b_La_turn 9 = .ok (.ireturn, 1) := by decide +kernel
theorem d_La_turn_10 : decode b_La_turn 10 = .ok (.iconst 0, 1) := by decide +kernel
theorem d_La_turn_11 : decode b_La_turn 11 = .ok (.ireturn, 1) := by decide +kernel
theorem d_La_copy_0 : decode b_La_copy 0 = .ok (.aload_n 2, 1) := by decide +kernel
theorem d_La_copy_1 : decode b_La_copy 1 = .ok (.iconst 0, 1) := by decide +kernel
theorem d_La_copy_2 : decode b_La_copy 2 = .ok (.aload_n 0, 1) := by decide +kernel
theorem d_La_copy_3 : decode b_La_copy 3 = .ok (.iload_n 1, 1) := by decide +kernel
theorem d_La_copy_4 : decode b_La_copy 4 = .ok (.invokevirtual 27, 3) := by decide +kernel
theorem d_La_copy_7 : decode b_La_copy 7 = .ok (.i2l, 1) := by decide +kernel
theorem d_La_copy_8 : decode b_La_copy 8 = .ok (.lastore, 1) := by decide +kernel
theorem d_La_copy_9 : decode b_La_copy 9 = .ok (.goto 9, 3) := by decide +kernel
theorem d_La_copy_12 : decode b_La_copy 12 = .ok (.astore_n 3, 1) := by decide +kernel
theorem d_La_copy_13 : decode b_La_copy 13 = .ok (.iconst 1, 1) := by decide +kernel
theorem d_La_copy_14 : decode b_La_copy 14 = .ok (.ireturn, 1) := by decide +kernel
theorem d_La_copy_15 : decode b_La_copy 15 = .ok (.astore_n 3, 1) := by decide +kernel
theorem d_La_copy_16 : decode b_La_copy 16 = .ok (.iconst 2, 1) := by decide +kernel
theorem d_La_copy_17 : decode b_La_copy 17 = .ok (.ireturn, 1) := by decide +kernel
theorem d_La_copy_18 : decode b_La_copy 18 = .ok (.iconst 0, 1) := by decide +kernel
theorem d_La_copy_19 : decode b_La_copy 19 = .ok (.ireturn, 1) := by decide +kernel
theorem d_La_drop_0 : decode b_La_drop 0 = .ok (.aload_n 1, 1) := by decide +kernel
theorem d_La_drop_1 : decode b_La_drop 1 = .ok (.iconst 0, 1) := by decide +kernel
theorem d_La_drop_2 : decode b_La_drop 2 = .ok (.aload_n 0, 1) := by decide +kernel
theorem d_La_drop_3 : decode b_La_drop 3 = .ok (.invokevirtual 32, 3) := by decide +kernel
theorem d_La_drop_6 : decode b_La_drop 6 = .ok (.i2l, 1) := by decide +kernel
theorem d_La_drop_7 : decode b_La_drop 7 = .ok (.lastore, 1) := by decide +kernel
theorem d_La_drop_8 : decode b_La_drop 8 = .ok (.goto 6, 3) := by decide +kernel
theorem d_La_drop_11 : decode b_La_drop 11 = .ok (.astore_n 2, 1) := by decide +kernel
theorem d_La_drop_12 : decode b_La_drop 12 = .ok (.iconst 1, 1) := by decide +kernel
theorem d_La_drop_13 : decode b_La_drop 13 = .ok (.ireturn, 1) := by decide +kernel
theorem d_La_drop_14 : decode b_La_drop 14 = .ok (.iconst 0, 1) := by decide +kernel
theorem d_La_drop_15 : decode b_La_drop 15 = .ok (.ireturn, 1) := by decide +kernel
theorem d_La_inside_0 : decode b_La_inside 0 = .ok (.aload 5, 2) := by decide +kernel
theorem d_La_inside_2 : decode b_La_inside 2 = .ok (.iconst 0, 1) := by decide +kernel
theorem d_La_inside_3 : decode b_La_inside 3 = .ok (.aload_n 0, 1) := by decide +kernel
theorem d_La_inside_4 : decode b_La_inside 4 = .ok (.iload_n 1, 1) := by decide +kernel
theorem d_La_inside_5 : decode b_La_inside 5 = .ok (.iload_n 2, 1) := by decide +kernel
theorem d_La_inside_6 : decode b_La_inside 6 = .ok (.iload_n 3, 1) := by decide +kernel
theorem d_La_inside_7 : decode b_La_inside 7 = .ok (.iload 4, 2) := by decide +kernel
theorem d_La_inside_9 : decode b_La_inside 9 = .ok (.invokevirtual 36, 3) := by decide +kernel
theorem d_La_inside_12 : decode b_La_inside 12 = .ok (.i2l, 1) := by decide +kernel
theorem d_La_inside_13 : decode b_La_inside 13 = .ok (.lastore, 1) := by decide +kernel
theorem d_La_inside_14 : decode b_La_inside 14 = .ok (.goto 11, 3) := by decide +kernel
theorem d_La_inside_17 : decode b_La_inside 17 = .ok (.astore 6, 2) := by decide +kernel
theorem d_La_inside_19 : decode b_La_inside 19 = .ok (.iconst 1, 1) := by decide +kernel
theorem d_La_inside_20 : decode b_La_inside 20 = .ok (.ireturn, 1) := by decide +kernel
theorem d_La_inside_21 : decode b_La_inside 21 = .ok (.astore 6, 2) := by decide +kernel
theorem d_La_inside_23 : decode b_La_inside 23 = .ok (.iconst 2, 1) := by decide +kernel
theorem d_La_inside_24 : decode b_La_inside 24 = .ok (.ireturn, 1) := by decide +kernel
theorem d_La_inside_25 : decode b_La_inside 25 = .ok (.iconst 0, 1) := by decide +kernel
theorem d_La_inside_26 : decode b_La_inside 26 = .ok (.ireturn, 1) := by decide +kernel
theorem d_La_side_0 : decode b_La_side 0 = .ok (.aload 5, 2) := by decide +kernel
theorem d_La_side_2 : decode b_La_side 2 = .ok (.iconst 0, 1) := by decide +kernel
theorem d_La_side_3 : decode b_La_side 3 = .ok (.aload_n 0, 1) := by decide +kernel
theorem d_La_side_4 : decode b_La_side 4 = .ok (.iload_n 1, 1) := by decide +kernel
theorem d_La_side_5 : decode b_La_side 5 = .ok (.iload_n 2, 1) := by decide +kernel
theorem d_La_side_6 : decode b_La_side 6 = .ok (.iload_n 3, 1) := by decide +kernel
theorem d_La_side_7 : decode b_La_side 7 = .ok (.iload 4, 2) := by decide +kernel
theorem d_La_side_9 : decode b_La_side 9 = .ok (.invokevirtual 39, 3) := by decide +kernel
theorem d_La_side_12 : decode b_La_side 12 = .ok (.i2l, 1) := by decide +kernel
theorem d_La_side_13 : decode b_La_side 13 = .ok (.lastore, 1) := by decide +kernel
theorem d_La_side_14 : decode b_La_side 14 = .ok (.goto 15, 3) := by decide +kernel
theorem d_La_side_17 : decode b_La_side 17 = .ok (.astore 6, 2) := by decide +kernel
theorem d_La_side_19 : decode b_La_side 19 = .ok (.iconst 1, 1) := by decide +kernel
theorem d_La_side_20 : decode b_La_side 20 = .ok (.ireturn, 1) := by decide +kernel
theorem d_La_side_21 : decode b_La_side 21 = .ok (.astore 6, 2) := by decide +kernel
theorem d_La_side_23 : decode b_La_side 23 = .ok (.iconst 2, 1) := by decide +kernel
theorem d_La_side_24 : decode b_La_side 24 = .ok (.ireturn, 1) := by decide +kernel
theorem d_La_side_25 : decode b_La_side 25 = .ok (.astore 6, 2) := by decide +kernel
theorem d_La_side_27 : decode b_La_side 27 = .ok (.iconst 3, 1) := by decide +kernel
theorem d_La_side_28 : decode b_La_side 28 = .ok (.ireturn, 1) := by decide +kernel
theorem d_La_side_29 : decode b_La_side 29 = .ok (.iconst 0, 1) := by decide +kernel
theorem d_La_side_30 : decode b_La_side 30 = .ok (.ireturn, 1) := by decide +kernel
theorem d_La_enters_0 : decode b_La_enters 0 = .ok (.aload 4, 2) := by decide +kernel
theorem d_La_enters_2 : decode b_La_enters 2 = .ok (.iconst 0, 1) := by decide +kernel
theorem d_La_enters_3 : decode b_La_enters 3 = .ok (.aload_n 0, 1) := by decide +kernel
theorem d_La_enters_4 : decode b_La_enters 4 = .ok (.iload_n 1, 1) := by decide +kernel
theorem d_La_enters_5 : decode b_La_enters 5 = .ok (.iload_n 2, 1) := by decide +kernel
theorem d_La_enters_6 : decode b_La_enters 6 = .ok (.iload_n 3, 1) := by decide +kernel
theorem d_La_enters_7 : decode b_La_enters 7 = .ok (.invokevirtual 44, 3) := by decide +kernel
theorem d_La_enters_10 : decode b_La_enters 10 = .ok (.i2l, 1) := by decide +kernel
theorem d_La_enters_11 : decode b_La_enters 11 = .ok (.lastore, 1) := by decide +kernel
theorem d_La_enters_12 : decode b_La_enters 12 = .ok (.goto 15, 3) := by decide +kernel
theorem d_La_enters_15 : decode b_La_enters 15 = .ok (.astore 5, 2) := by decide +kernel
theorem d_La_enters_17 : decode b_La_enters 17 = .ok (.iconst 1, 1) := by decide +kernel
theorem d_La_enters_18 : decode b_La_enters 18 = .ok (.ireturn, 1) := by decide +kernel
theorem d_La_enters_19 : decode b_La_enters 19 = .ok (.astore 5, 2) := by decide +kernel
theorem d_La_enters_21 : decode b_La_enters 21 = .ok (.iconst 2, 1) := by decide +kernel
theorem d_La_enters_22 : decode b_La_enters 22 = .ok (.ireturn, 1) := by decide +kernel
theorem d_La_enters_23 : decode b_La_enters 23 = .ok (.astore 5, 2) := by decide +kernel
theorem d_La_enters_25 : decode b_La_enters 25 = .ok (.iconst 3, 1) := by decide +kernel
theorem d_La_enters_26 : decode b_La_enters 26 = .ok (.ireturn, 1) := by decide +kernel
theorem d_La_enters_27 : decode b_La_enters 27 = .ok (.iconst 0, 1) := by decide +kernel
theorem d_La_enters_28 : decode b_La_enters 28 = .ok (.ireturn, 1) := by decide +kernel
theorem d_La_law_0 : decode b_La_law 0 = .ok (.new 8, 3) := by decide +kernel
theorem d_La_law_3 : decode b_La_law 3 = .ok (.dup, 1) := by decide +kernel
theorem d_La_law_4 : decode b_La_law 4 = .ok (.invokespecial 48, 3) := by decide +kernel
theorem d_La_law_7 : decode b_La_law 7 = .ok (.astore_n 1, 1) := by decide +kernel
theorem d_La_law_8 : decode b_La_law 8 = .ok (.new 49, 3) := by decide +kernel
theorem d_La_law_11 : decode b_La_law 11 = .ok (.dup, 1) := by decide +kernel
theorem d_La_law_12 : decode b_La_law 12 = .ok (.invokespecial 51, 3) := by decide +kernel
theorem d_La_law_15 : decode b_La_law 15 = .ok (.astore_n 2, 1) := by decide +kernel
theorem d_La_law_16 : decode b_La_law 16 = .ok (.iconst 1, 1) := by decide +kernel
theorem d_La_law_17 : decode b_La_law 17 = .ok (.newarray .long, 2) := by decide +kernel
theorem d_La_law_19 : decode b_La_law 19 = .ok (.astore_n 3, 1) := by decide +kernel
theorem d_La_law_20 : decode b_La_law 20 = .ok (.iconst 0, 1) := by decide +kernel
theorem d_La_law_21 : decode b_La_law 21 = .ok (.istore 4, 2) := by decide +kernel
theorem d_La_law_23 : decode b_La_law 23 = .ok (.iload 4, 2) := by decide +kernel
theorem d_La_law_25 : decode b_La_law 25 = .ok (.aload_n 0, 1) := by decide +kernel
theorem d_La_law_26 : decode b_La_law 26 = .ok (.arraylength, 1) := by decide +kernel
theorem d_La_law_27 : decode b_La_law 27 = .ok (.iconst 5, 1) := by decide +kernel
theorem d_La_law_28 : decode b_La_law 28 = .ok (.isub, 1) := by decide +kernel
theorem d_La_law_29 : decode b_La_law 29 = .ok (.if_icmp .gt 691, 3) := by decide +kernel
theorem d_La_law_32 : decode b_La_law 32 = .ok (.aload_n 0, 1) := by decide +kernel
theorem d_La_law_33 : decode b_La_law 33 = .ok (.iload 4, 2) := by decide +kernel
theorem d_La_law_35 : decode b_La_law 35 = .ok (.iaload, 1) := by decide +kernel
theorem d_La_law_36 : decode b_La_law 36 = .ok (.bipush 15, 2) := by decide +kernel
theorem d_La_law_38 : decode b_La_law 38 = .ok (.iand, 1) := by decide +kernel
theorem d_La_law_39 : decode b_La_law 39 = .ok (.tableswitch 675 0 10 #[57, 149, 162, 218, 274, 298, 354, 398, 411, 503, 595], 57) := by decide +kernel
theorem d_La_law_96 : decode b_La_law 96 = .ok (.aload_n 1, 1) := by decide +kernel
theorem d_La_law_97 : decode b_La_law 97 = .ok (.aload_n 0, 1) := by decide +kernel
theorem d_La_law_98 : decode b_La_law 98 = .ok (.iload 4, 2) := by decide +kernel
theorem d_La_law_100 : decode b_La_law 100 = .ok (.iconst 1, 1) := by decide +kernel
theorem d_La_law_101 : decode b_La_law 101 = .ok (.iadd, 1) := by decide +kernel
theorem d_La_law_102 : decode b_La_law 102 = .ok (.iaload, 1) := by decide +kernel
theorem d_La_law_103 : decode b_La_law 103 = .ok (.aload_n 0, 1) := by decide +kernel
theorem d_La_law_104 : decode b_La_law 104 = .ok (.iload 4, 2) := by decide +kernel
theorem d_La_law_106 : decode b_La_law 106 = .ok (.iconst 2, 1) := by decide +kernel
theorem d_La_law_107 : decode b_La_law 107 = .ok (.iadd, 1) := by decide +kernel
theorem d_La_law_108 : decode b_La_law 108 = .ok (.iaload, 1) := by decide +kernel
theorem d_La_law_109 : decode b_La_law 109 = .ok (.aload_n 0, 1) := by decide +kernel
theorem d_La_law_110 : decode b_La_law 110 = .ok (.iload 4, 2) := by decide +kernel
theorem d_La_law_112 : decode b_La_law 112 = .ok (.iconst 3, 1) := by decide +kernel
theorem d_La_law_113 : decode b_La_law 113 = .ok (.iadd, 1) := by decide +kernel
theorem d_La_law_114 : decode b_La_law 114 = .ok (.iaload, 1) := by decide +kernel
theorem d_La_law_115 : decode b_La_law 115 = .ok (.aload_n 0, 1) := by decide +kernel
theorem d_La_law_116 : decode b_La_law 116 = .ok (.iload 4, 2) := by decide +kernel
theorem d_La_law_118 : decode b_La_law 118 = .ok (.iconst 4, 1) := by decide +kernel
theorem d_La_law_119 : decode b_La_law 119 = .ok (.iadd, 1) := by decide +kernel
theorem d_La_law_120 : decode b_La_law 120 = .ok (.iaload, 1) := by decide +kernel
theorem d_La_law_121 : decode b_La_law 121 = .ok (.aload_n 3, 1) := by decide +kernel
theorem d_La_law_122 : decode b_La_law 122 = .ok (.invokestatic 52, 3) := by decide +kernel
theorem d_La_law_125 : decode b_La_law 125 = .ok (.istore 5, 2) := by decide +kernel
theorem d_La_law_127 : decode b_La_law 127 = .ok (.aload_n 2, 1) := by decide +kernel
theorem d_La_law_128 : decode b_La_law 128 = .ok (.aload_n 0, 1) := by decide +kernel
theorem d_La_law_129 : decode b_La_law 129 = .ok (.iload 4, 2) := by decide +kernel
theorem d_La_law_131 : decode b_La_law 131 = .ok (.iconst 1, 1) := by decide +kernel
theorem d_La_law_132 : decode b_La_law 132 = .ok (.iadd, 1) := by decide +kernel
theorem d_La_law_133 : decode b_La_law 133 = .ok (.iaload, 1) := by decide +kernel
theorem d_La_law_134 : decode b_La_law 134 = .ok (.aload_n 0, 1) := by decide +kernel
theorem d_La_law_135 : decode b_La_law 135 = .ok (.iload 4, 2) := by decide +kernel
theorem d_La_law_137 : decode b_La_law 137 = .ok (.iconst 2, 1) := by decide +kernel
theorem d_La_law_138 : decode b_La_law 138 = .ok (.iadd, 1) := by decide +kernel
theorem d_La_law_139 : decode b_La_law 139 = .ok (.iaload, 1) := by decide +kernel
theorem d_La_law_140 : decode b_La_law 140 = .ok (.aload_n 0, 1) := by decide +kernel
theorem d_La_law_141 : decode b_La_law 141 = .ok (.iload 4, 2) := by decide +kernel
theorem d_La_law_143 : decode b_La_law 143 = .ok (.iconst 3, 1) := by decide +kernel
theorem d_La_law_144 : decode b_La_law 144 = .ok (.iadd, 1) := by decide +kernel
theorem d_La_law_145 : decode b_La_law 145 = .ok (.iaload, 1) := by decide +kernel
theorem d_La_law_146 : decode b_La_law 146 = .ok (.aload_n 0, 1) := by decide +kernel
theorem d_La_law_147 : decode b_La_law 147 = .ok (.iload 4, 2) := by decide +kernel
theorem d_La_law_149 : decode b_La_law 149 = .ok (.iconst 4, 1) := by decide +kernel
theorem d_La_law_150 : decode b_La_law 150 = .ok (.iadd, 1) := by decide +kernel
theorem d_La_law_151 : decode b_La_law 151 = .ok (.iaload, 1) := by decide +kernel
theorem d_La_law_152 : decode b_La_law 152 = .ok (.invokevirtual 57, 3) := by decide +kernel
theorem d_La_law_155 : decode b_La_law 155 = .ok (.istore 6, 2) := by decide +kernel
theorem d_La_law_157 : decode b_La_law 157 = .ok (.aload_n 2, 1) := by decide +kernel
theorem d_La_law_158 : decode b_La_law 158 = .ok (.invokevirtual 58, 3) := by decide +kernel
theorem d_La_law_161 : decode b_La_law 161 = .ok (.iload 5, 2) := by decide +kernel
theorem d_La_law_163 : decode b_La_law 163 = .ok (.if_icmp .eq 5, 3) := by decide +kernel
theorem d_La_law_166 : decode b_La_law 166 = .ok (.iconst 0, 1) := by decide +kernel
theorem d_La_law_167 : decode b_La_law 167 = .ok (.ireturn, 1) := by decide +kernel
theorem d_La_law_168 : decode b_La_law 168 = .ok (.iload 5, 2) := by decide +kernel
theorem d_La_law_170 : decode b_La_law 170 = .ok (.ifCond .ne 15, 3) := by decide +kernel
theorem d_La_law_173 : decode b_La_law 173 = .ok (.aload_n 3, 1) := by decide +kernel
theorem d_La_law_174 : decode b_La_law 174 = .ok (.iconst 0, 1) := by decide +kernel
theorem d_La_law_175 : decode b_La_law 175 = .ok (.laload, 1) := by decide +kernel
theorem d_La_law_176 : decode b_La_law 176 = .ok (.iload 6, 2) := by decide +kernel
theorem d_La_law_178 : decode b_La_law 178 = .ok (.i2l, 1) := by decide +kernel
theorem d_La_law_179 : decode b_La_law 179 = .ok (.lcmp, 1) := by decide +kernel
theorem d_La_law_180 : decode b_La_law 180 = .ok (.ifCond .eq 5, 3) := by decide +kernel
theorem d_La_law_183 : decode b_La_law 183 = .ok (.iconst 0, 1) := by decide +kernel
theorem d_La_law_184 : decode b_La_law 184 = .ok (.ireturn, 1) := by decide +kernel
theorem d_La_law_185 : decode b_La_law 185 = .ok (.goto 529, 3) := by decide +kernel
theorem d_La_law_188 : decode b_La_law 188 = .ok (.aload_n 1, 1) := by decide +kernel
theorem d_La_law_189 : decode b_La_law 189 = .ok (.invokevirtual 61, 3) := by decide +kernel
theorem d_La_law_192 : decode b_La_law 192 = .ok (.aload_n 2, 1) := by decide +kernel
theorem d_La_law_193 : decode b_La_law 193 = .ok (.invokevirtual 64, 3) := by decide +kernel
theorem d_La_law_196 : decode b_La_law 196 = .ok (.if_icmp .eq 518, 3) := by decide +kernel
theorem d_La_law_199 : decode b_La_law 199 = .ok (.iconst 0, 1) := by decide +kernel
theorem d_La_law_200 : decode b_La_law 200 = .ok (.ireturn, 1) := by decide +kernel
theorem d_La_law_201 : decode b_La_law 201 = .ok (.aload_n 1, 1) := by decide +kernel
theorem d_La_law_202 : decode b_La_law 202 = .ok (.aload_n 0, 1) := by decide +kernel
theorem d_La_law_203 : decode b_La_law 203 = .ok (.iload 4, 2) := by decide +kernel
theorem d_La_law_205 : decode b_La_law 205 = .ok (.iconst 1, 1) := by decide +kernel
theorem d_La_law_206 : decode b_La_law 206 = .ok (.iadd, 1) := by decide +kernel
theorem d_La_law_207 : decode b_La_law 207 = .ok (.iaload, 1) := by decide +kernel
theorem d_La_law_208 : decode b_La_law 208 = .ok (.aload_n 3, 1) := by decide +kernel
theorem d_La_law_209 : decode b_La_law 209 = .ok (.invokestatic 65, 3) := by decide +kernel
theorem d_La_law_212 : decode b_La_law 212 = .ok (.istore 5, 2) := by decide +kernel
theorem d_La_law_214 : decode b_La_law 214 = .ok (.aload_n 2, 1) := by decide +kernel
theorem d_La_law_215 : decode b_La_law 215 = .ok (.aload_n 0, 1) := by decide +kernel
theorem d_La_law_216 : decode b_La_law 216 = .ok (.iload 4, 2) := by decide +kernel
theorem d_La_law_218 : decode b_La_law 218 = .ok (.iconst 1, 1) := by decide +kernel
theorem d_La_law_219 : decode b_La_law 219 = .ok (.iadd, 1) := by decide +kernel
theorem d_La_law_220 : decode b_La_law 220 = .ok (.iaload, 1) := by decide +kernel
theorem d_La_law_221 : decode b_La_law 221 = .ok (.invokevirtual 68, 3) := by decide +kernel
theorem d_La_law_224 : decode b_La_law 224 = .ok (.istore 6, 2) := by decide +kernel
theorem d_La_law_226 : decode b_La_law 226 = .ok (.aload_n 2, 1) := by decide +kernel
theorem d_La_law_227 : decode b_La_law 227 = .ok (.invokevirtual 58, 3) := by decide +kernel
theorem d_La_law_230 : decode b_La_law 230 = .ok (.iload 5, 2) := by decide +kernel
theorem d_La_law_232 : decode b_La_law 232 = .ok (.if_icmp .eq 5, 3) := by decide +kernel
theorem d_La_law_235 : decode b_La_law 235 = .ok (.iconst 0, 1) := by decide +kernel
theorem d_La_law_236 : decode b_La_law 236 = .ok (.ireturn, 1) := by decide +kernel
theorem d_La_law_237 : decode b_La_law 237 = .ok (.iload 5, 2) := by decide +kernel
theorem d_La_law_239 : decode b_La_law 239 = .ok (.ifCond .ne 15, 3) := by decide +kernel
theorem d_La_law_242 : decode b_La_law 242 = .ok (.aload_n 3, 1) := by decide +kernel
theorem d_La_law_243 : decode b_La_law 243 = .ok (.iconst 0, 1) := by decide +kernel
theorem d_La_law_244 : decode b_La_law 244 = .ok (.laload, 1) := by decide +kernel
theorem d_La_law_245 : decode b_La_law 245 = .ok (.iload 6, 2) := by decide +kernel
theorem d_La_law_247 : decode b_La_law 247 = .ok (.i2l, 1) := by decide +kernel
theorem d_La_law_248 : decode b_La_law 248 = .ok (.lcmp, 1) := by decide +kernel
theorem d_La_law_249 : decode b_La_law 249 = .ok (.ifCond .eq 5, 3) := by decide +kernel
theorem d_La_law_252 : decode b_La_law 252 = .ok (.iconst 0, 1) := by decide +kernel
theorem d_La_law_253 : decode b_La_law 253 = .ok (.ireturn, 1) := by decide +kernel
theorem d_La_law_254 : decode b_La_law 254 = .ok (.goto 460, 3) := by decide +kernel
theorem d_La_law_257 : decode b_La_law 257 = .ok (.aload_n 1, 1) := by decide +kernel
theorem d_La_law_258 : decode b_La_law 258 = .ok (.aload_n 0, 1) := by decide +kernel
theorem d_La_law_259 : decode b_La_law 259 = .ok (.iload 4, 2) := by decide +kernel
theorem d_La_law_261 : decode b_La_law 261 = .ok (.iconst 1, 1) := by decide +kernel
theorem d_La_law_262 : decode b_La_law 262 = .ok (.iadd, 1) := by decide +kernel
theorem d_La_law_263 : decode b_La_law 263 = .ok (.iaload, 1) := by decide +kernel
theorem d_La_law_264 : decode b_La_law 264 = .ok (.aload_n 3, 1) := by decide +kernel
theorem d_La_law_265 : decode b_La_law 265 = .ok (.invokestatic 69, 3) := by decide +kernel
theorem d_La_law_268 : decode b_La_law 268 = .ok (.istore 5, 2) := by decide +kernel
theorem d_La_law_270 : decode b_La_law 270 = .ok (.aload_n 2, 1) := by decide +kernel
theorem d_La_law_271 : decode b_La_law 271 = .ok (.aload_n 0, 1) := by decide +kernel
theorem d_La_law_272 : decode b_La_law 272 = .ok (.iload 4, 2) := by decide +kernel
theorem d_La_law_274 : decode b_La_law 274 = .ok (.iconst 1, 1) := by decide +kernel
theorem d_La_law_275 : decode b_La_law 275 = .ok (.iadd, 1) := by decide +kernel
theorem d_La_law_276 : decode b_La_law 276 = .ok (.iaload, 1) := by decide +kernel
theorem d_La_law_277 : decode b_La_law 277 = .ok (.invokevirtual 71, 3) := by decide +kernel
theorem d_La_law_280 : decode b_La_law 280 = .ok (.istore 6, 2) := by decide +kernel
theorem d_La_law_282 : decode b_La_law 282 = .ok (.aload_n 2, 1) := by decide +kernel
theorem d_La_law_283 : decode b_La_law 283 = .ok (.invokevirtual 58, 3) := by decide +kernel
theorem d_La_law_286 : decode b_La_law 286 = .ok (.iload 5, 2) := by decide +kernel
theorem d_La_law_288 : decode b_La_law 288 = .ok (.if_icmp .eq 5, 3) := by decide +kernel
theorem d_La_law_291 : decode b_La_law 291 = .ok (.iconst 0, 1) := by decide +kernel
theorem d_La_law_292 : decode b_La_law 292 = .ok (.ireturn, 1) := by decide +kernel
theorem d_La_law_293 : decode b_La_law 293 = .ok (.iload 5, 2) := by decide +kernel
theorem d_La_law_295 : decode b_La_law 295 = .ok (.ifCond .ne 15, 3) := by decide +kernel
theorem d_La_law_298 : decode b_La_law 298 = .ok (.aload_n 3, 1) := by decide +kernel
theorem d_La_law_299 : decode b_La_law 299 = .ok (.iconst 0, 1) := by decide +kernel
theorem d_La_law_300 : decode b_La_law 300 = .ok (.laload, 1) := by decide +kernel
theorem d_La_law_301 : decode b_La_law 301 = .ok (.iload 6, 2) := by decide +kernel
theorem d_La_law_303 : decode b_La_law 303 = .ok (.i2l, 1) := by decide +kernel
theorem d_La_law_304 : decode b_La_law 304 = .ok (.lcmp, 1) := by decide +kernel
theorem d_La_law_305 : decode b_La_law 305 = .ok (.ifCond .eq 5, 3) := by decide +kernel
theorem d_La_law_308 : decode b_La_law 308 = .ok (.iconst 0, 1) := by decide +kernel
theorem d_La_law_309 : decode b_La_law 309 = .ok (.ireturn, 1) := by decide +kernel
theorem d_La_law_310 : decode b_La_law 310 = .ok (.goto 404, 3) := by decide +kernel
theorem d_La_law_313 : decode b_La_law 313 = .ok (.aload_n 1, 1) := by decide +kernel
theorem d_La_law_314 : decode b_La_law 314 = .ok (.invokestatic 72, 3) := by decide +kernel
theorem d_La_law_317 : decode b_La_law 317 = .ok (.istore 5, 2) := by decide +kernel
theorem d_La_law_319 : decode b_La_law 319 = .ok (.aload_n 2, 1) := by decide +kernel
theorem d_La_law_320 : decode b_La_law 320 = .ok (.invokevirtual 75, 3) := by decide +kernel
theorem d_La_law_323 : decode b_La_law 323 = .ok (.aload_n 2, 1) := by decide +kernel
theorem d_La_law_324 : decode b_La_law 324 = .ok (.invokevirtual 58, 3) := by decide +kernel
theorem d_La_law_327 : decode b_La_law 327 = .ok (.iload 5, 2) := by decide +kernel
theorem d_La_law_329 : decode b_La_law 329 = .ok (.if_icmp .eq 5, 3) := by decide +kernel
theorem d_La_law_332 : decode b_La_law 332 = .ok (.iconst 0, 1) := by decide +kernel
theorem d_La_law_333 : decode b_La_law 333 = .ok (.ireturn, 1) := by decide +kernel
theorem d_La_law_334 : decode b_La_law 334 = .ok (.goto 380, 3) := by decide +kernel
theorem d_La_law_337 : decode b_La_law 337 = .ok (.aload_n 1, 1) := by decide +kernel
theorem d_La_law_338 : decode b_La_law 338 = .ok (.aload_n 0, 1) := by decide +kernel
theorem d_La_law_339 : decode b_La_law 339 = .ok (.iload 4, 2) := by decide +kernel
theorem d_La_law_341 : decode b_La_law 341 = .ok (.iconst 1, 1) := by decide +kernel
theorem d_La_law_342 : decode b_La_law 342 = .ok (.iadd, 1) := by decide +kernel
theorem d_La_law_343 : decode b_La_law 343 = .ok (.iaload, 1) := by decide +kernel
theorem d_La_law_344 : decode b_La_law 344 = .ok (.aload_n 3, 1) := by decide +kernel
theorem d_La_law_345 : decode b_La_law 345 = .ok (.invokestatic 76, 3) := by decide +kernel
theorem d_La_law_348 : decode b_La_law 348 = .ok (.istore 5, 2) := by decide +kernel
theorem d_La_law_350 : decode b_La_law 350 = .ok (.aload_n 2, 1) := by decide +kernel
theorem d_La_law_351 : decode b_La_law 351 = .ok (.aload_n 0, 1) := by decide +kernel
theorem d_La_law_352 : decode b_La_law 352 = .ok (.iload 4, 2) := by decide +kernel
theorem d_La_law_354 : decode b_La_law 354 = .ok (.iconst 1, 1) := by decide +kernel
theorem d_La_law_355 : decode b_La_law 355 = .ok (.iadd, 1) := by decide +kernel
theorem d_La_law_356 : decode b_La_law 356 = .ok (.iaload, 1) := by decide +kernel
theorem d_La_law_357 : decode b_La_law 357 = .ok (.invokevirtual 78, 3) := by decide +kernel
theorem d_La_law_360 : decode b_La_law 360 = .ok (.istore 6, 2) := by decide +kernel
theorem d_La_law_362 : decode b_La_law 362 = .ok (.aload_n 2, 1) := by decide +kernel
theorem d_La_law_363 : decode b_La_law 363 = .ok (.invokevirtual 58, 3) := by decide +kernel
theorem d_La_law_366 : decode b_La_law 366 = .ok (.iload 5, 2) := by decide +kernel
theorem d_La_law_368 : decode b_La_law 368 = .ok (.if_icmp .eq 5, 3) := by decide +kernel
theorem d_La_law_371 : decode b_La_law 371 = .ok (.iconst 0, 1) := by decide +kernel
theorem d_La_law_372 : decode b_La_law 372 = .ok (.ireturn, 1) := by decide +kernel
theorem d_La_law_373 : decode b_La_law 373 = .ok (.iload 5, 2) := by decide +kernel
theorem d_La_law_375 : decode b_La_law 375 = .ok (.ifCond .ne 15, 3) := by decide +kernel
theorem d_La_law_378 : decode b_La_law 378 = .ok (.aload_n 3, 1) := by decide +kernel
theorem d_La_law_379 : decode b_La_law 379 = .ok (.iconst 0, 1) := by decide +kernel
theorem d_La_law_380 : decode b_La_law 380 = .ok (.laload, 1) := by decide +kernel
theorem d_La_law_381 : decode b_La_law 381 = .ok (.iload 6, 2) := by decide +kernel
theorem d_La_law_383 : decode b_La_law 383 = .ok (.i2l, 1) := by decide +kernel
theorem d_La_law_384 : decode b_La_law 384 = .ok (.lcmp, 1) := by decide +kernel
theorem d_La_law_385 : decode b_La_law 385 = .ok (.ifCond .eq 5, 3) := by decide +kernel
theorem d_La_law_388 : decode b_La_law 388 = .ok (.iconst 0, 1) := by decide +kernel
theorem d_La_law_389 : decode b_La_law 389 = .ok (.ireturn, 1) := by decide +kernel
theorem d_La_law_390 : decode b_La_law 390 = .ok (.goto 324, 3) := by decide +kernel
theorem d_La_law_393 : decode b_La_law 393 = .ok (.aload_n 1, 1) := by decide +kernel
theorem d_La_law_394 : decode b_La_law 394 = .ok (.aload_n 3, 1) := by decide +kernel
theorem d_La_law_395 : decode b_La_law 395 = .ok (.invokestatic 79, 3) := by decide +kernel
theorem d_La_law_398 : decode b_La_law 398 = .ok (.istore 5, 2) := by decide +kernel
theorem d_La_law_400 : decode b_La_law 400 = .ok (.aload_n 2, 1) := by decide +kernel
theorem d_La_law_401 : decode b_La_law 401 = .ok (.invokevirtual 82, 3) := by decide +kernel
theorem d_La_law_404 : decode b_La_law 404 = .ok (.istore 6, 2) := by decide +kernel
theorem d_La_law_406 : decode b_La_law 406 = .ok (.aload_n 2, 1) := by decide +kernel
theorem d_La_law_407 : decode b_La_law 407 = .ok (.invokevirtual 58, 3) := by decide +kernel
theorem d_La_law_410 : decode b_La_law 410 = .ok (.iload 5, 2) := by decide +kernel
theorem d_La_law_412 : decode b_La_law 412 = .ok (.if_icmp .eq 5, 3) := by decide +kernel
theorem d_La_law_415 : decode b_La_law 415 = .ok (.iconst 0, 1) := by decide +kernel
theorem d_La_law_416 : decode b_La_law 416 = .ok (.ireturn, 1) := by decide +kernel
theorem d_La_law_417 : decode b_La_law 417 = .ok (.iload 5, 2) := by decide +kernel
theorem d_La_law_419 : decode b_La_law 419 = .ok (.ifCond .ne 15, 3) := by decide +kernel
theorem d_La_law_422 : decode b_La_law 422 = .ok (.aload_n 3, 1) := by decide +kernel
theorem d_La_law_423 : decode b_La_law 423 = .ok (.iconst 0, 1) := by decide +kernel
theorem d_La_law_424 : decode b_La_law 424 = .ok (.laload, 1) := by decide +kernel
theorem d_La_law_425 : decode b_La_law 425 = .ok (.iload 6, 2) := by decide +kernel
theorem d_La_law_427 : decode b_La_law 427 = .ok (.i2l, 1) := by decide +kernel
theorem d_La_law_428 : decode b_La_law 428 = .ok (.lcmp, 1) := by decide +kernel
theorem d_La_law_429 : decode b_La_law 429 = .ok (.ifCond .eq 5, 3) := by decide +kernel
theorem d_La_law_432 : decode b_La_law 432 = .ok (.iconst 0, 1) := by decide +kernel
theorem d_La_law_433 : decode b_La_law 433 = .ok (.ireturn, 1) := by decide +kernel
theorem d_La_law_434 : decode b_La_law 434 = .ok (.goto 280, 3) := by decide +kernel
theorem d_La_law_437 : decode b_La_law 437 = .ok (.aload_n 1, 1) := by decide +kernel
theorem d_La_law_438 : decode b_La_law 438 = .ok (.invokevirtual 83, 3) := by decide +kernel
theorem d_La_law_441 : decode b_La_law 441 = .ok (.aload_n 2, 1) := by decide +kernel
theorem d_La_law_442 : decode b_La_law 442 = .ok (.invokevirtual 86, 3) := by decide +kernel
theorem d_La_law_445 : decode b_La_law 445 = .ok (.if_icmp .eq 269, 3) := by decide +kernel
theorem d_La_law_448 : decode b_La_law 448 = .ok (.iconst 0, 1) := by decide +kernel
theorem d_La_law_449 : decode b_La_law 449 = .ok (.ireturn, 1) := by decide +kernel
theorem d_La_law_450 : decode b_La_law 450 = .ok (.aload_n 1, 1) := by decide +kernel
theorem d_La_law_451 : decode b_La_law 451 = .ok (.aload_n 0, 1) := by decide +kernel
theorem d_La_law_452 : decode b_La_law 452 = .ok (.iload 4, 2) := by decide +kernel
theorem d_La_law_454 : decode b_La_law 454 = .ok (.iconst 1, 1) := by decide +kernel
theorem d_La_law_455 : decode b_La_law 455 = .ok (.iadd, 1) := by decide +kernel
theorem d_La_law_456 : decode b_La_law 456 = .ok (.iaload, 1) := by decide +kernel
theorem d_La_law_457 : decode b_La_law 457 = .ok (.aload_n 0, 1) := by decide +kernel
theorem d_La_law_458 : decode b_La_law 458 = .ok (.iload 4, 2) := by decide +kernel
theorem d_La_law_460 : decode b_La_law 460 = .ok (.iconst 2, 1) := by decide +kernel
theorem d_La_law_461 : decode b_La_law 461 = .ok (.iadd, 1) := by decide +kernel
theorem d_La_law_462 : decode b_La_law 462 = .ok (.iaload, 1) := by decide +kernel
theorem d_La_law_463 : decode b_La_law 463 = .ok (.aload_n 0, 1) := by decide +kernel
theorem d_La_law_464 : decode b_La_law 464 = .ok (.iload 4, 2) := by decide +kernel
theorem d_La_law_466 : decode b_La_law 466 = .ok (.iconst 3, 1) := by decide +kernel
theorem d_La_law_467 : decode b_La_law 467 = .ok (.iadd, 1) := by decide +kernel
theorem d_La_law_468 : decode b_La_law 468 = .ok (.iaload, 1) := by decide +kernel
theorem d_La_law_469 : decode b_La_law 469 = .ok (.aload_n 0, 1) := by decide +kernel
theorem d_La_law_470 : decode b_La_law 470 = .ok (.iload 4, 2) := by decide +kernel
theorem d_La_law_472 : decode b_La_law 472 = .ok (.iconst 4, 1) := by decide +kernel
theorem d_La_law_473 : decode b_La_law 473 = .ok (.iadd, 1) := by decide +kernel
theorem d_La_law_474 : decode b_La_law 474 = .ok (.iaload, 1) := by decide +kernel
theorem d_La_law_475 : decode b_La_law 475 = .ok (.aload_n 3, 1) := by decide +kernel
theorem d_La_law_476 : decode b_La_law 476 = .ok (.invokestatic 87, 3) := by decide +kernel
theorem d_La_law_479 : decode b_La_law 479 = .ok (.istore 5, 2) := by decide +kernel
theorem d_La_law_481 : decode b_La_law 481 = .ok (.aload_n 2, 1) := by decide +kernel
theorem d_La_law_482 : decode b_La_law 482 = .ok (.aload_n 0, 1) := by decide +kernel
theorem d_La_law_483 : decode b_La_law 483 = .ok (.iload 4, 2) := by decide +kernel
theorem d_La_law_485 : decode b_La_law 485 = .ok (.iconst 1, 1) := by decide +kernel
theorem d_La_law_486 : decode b_La_law 486 = .ok (.iadd, 1) := by decide +kernel
theorem d_La_law_487 : decode b_La_law 487 = .ok (.iaload, 1) := by decide +kernel
theorem d_La_law_488 : decode b_La_law 488 = .ok (.aload_n 0, 1) := by decide +kernel
theorem d_La_law_489 : decode b_La_law 489 = .ok (.iload 4, 2) := by decide +kernel
theorem d_La_law_491 : decode b_La_law 491 = .ok (.iconst 2, 1) := by decide +kernel
theorem d_La_law_492 : decode b_La_law 492 = .ok (.iadd, 1) := by decide +kernel
theorem d_La_law_493 : decode b_La_law 493 = .ok (.iaload, 1) := by decide +kernel
theorem d_La_law_494 : decode b_La_law 494 = .ok (.aload_n 0, 1) := by decide +kernel
theorem d_La_law_495 : decode b_La_law 495 = .ok (.iload 4, 2) := by decide +kernel
theorem d_La_law_497 : decode b_La_law 497 = .ok (.iconst 3, 1) := by decide +kernel
theorem d_La_law_498 : decode b_La_law 498 = .ok (.iadd, 1) := by decide +kernel
theorem d_La_law_499 : decode b_La_law 499 = .ok (.iaload, 1) := by decide +kernel
theorem d_La_law_500 : decode b_La_law 500 = .ok (.aload_n 0, 1) := by decide +kernel
theorem d_La_law_501 : decode b_La_law 501 = .ok (.iload 4, 2) := by decide +kernel
theorem d_La_law_503 : decode b_La_law 503 = .ok (.iconst 4, 1) := by decide +kernel
theorem d_La_law_504 : decode b_La_law 504 = .ok (.iadd, 1) := by decide +kernel
theorem d_La_law_505 : decode b_La_law 505 = .ok (.iaload, 1) := by decide +kernel
theorem d_La_law_506 : decode b_La_law 506 = .ok (.invokevirtual 89, 3) := by decide +kernel
theorem d_La_law_509 : decode b_La_law 509 = .ok (.istore 6, 2) := by decide +kernel
theorem d_La_law_511 : decode b_La_law 511 = .ok (.aload_n 2, 1) := by decide +kernel
theorem d_La_law_512 : decode b_La_law 512 = .ok (.invokevirtual 58, 3) := by decide +kernel
theorem d_La_law_515 : decode b_La_law 515 = .ok (.iload 5, 2) := by decide +kernel
theorem d_La_law_517 : decode b_La_law 517 = .ok (.if_icmp .eq 5, 3) := by decide +kernel
theorem d_La_law_520 : decode b_La_law 520 = .ok (.iconst 0, 1) := by decide +kernel
theorem d_La_law_521 : decode b_La_law 521 = .ok (.ireturn, 1) := by decide +kernel
theorem d_La_law_522 : decode b_La_law 522 = .ok (.iload 5, 2) := by decide +kernel
theorem d_La_law_524 : decode b_La_law 524 = .ok (.ifCond .ne 15, 3) := by decide +kernel
theorem d_La_law_527 : decode b_La_law 527 = .ok (.aload_n 3, 1) := by decide +kernel
theorem d_La_law_528 : decode b_La_law 528 = .ok (.iconst 0, 1) := by decide +kernel
theorem d_La_law_529 : decode b_La_law 529 = .ok (.laload, 1) := by decide +kernel
theorem d_La_law_530 : decode b_La_law 530 = .ok (.iload 6, 2) := by decide +kernel
theorem d_La_law_532 : decode b_La_law 532 = .ok (.i2l, 1) := by decide +kernel
theorem d_La_law_533 : decode b_La_law 533 = .ok (.lcmp, 1) := by decide +kernel
theorem d_La_law_534 : decode b_La_law 534 = .ok (.ifCond .eq 5, 3) := by decide +kernel
theorem d_La_law_537 : decode b_La_law 537 = .ok (.iconst 0, 1) := by decide +kernel
theorem d_La_law_538 : decode b_La_law 538 = .ok (.ireturn, 1) := by decide +kernel
theorem d_La_law_539 : decode b_La_law 539 = .ok (.goto 175, 3) := by decide +kernel
theorem d_La_law_542 : decode b_La_law 542 = .ok (.aload_n 1, 1) := by decide +kernel
theorem d_La_law_543 : decode b_La_law 543 = .ok (.aload_n 0, 1) := by decide +kernel
theorem d_La_law_544 : decode b_La_law 544 = .ok (.iload 4, 2) := by decide +kernel
theorem d_La_law_546 : decode b_La_law 546 = .ok (.iconst 1, 1) := by decide +kernel
theorem d_La_law_547 : decode b_La_law 547 = .ok (.iadd, 1) := by decide +kernel
theorem d_La_law_548 : decode b_La_law 548 = .ok (.iaload, 1) := by decide +kernel
theorem d_La_law_549 : decode b_La_law 549 = .ok (.aload_n 0, 1) := by decide +kernel
theorem d_La_law_550 : decode b_La_law 550 = .ok (.iload 4, 2) := by decide +kernel
theorem d_La_law_552 : decode b_La_law 552 = .ok (.iconst 2, 1) := by decide +kernel
theorem d_La_law_553 : decode b_La_law 553 = .ok (.iadd, 1) := by decide +kernel
theorem d_La_law_554 : decode b_La_law 554 = .ok (.iaload, 1) := by decide +kernel
theorem d_La_law_555 : decode b_La_law 555 = .ok (.aload_n 0, 1) := by decide +kernel
theorem d_La_law_556 : decode b_La_law 556 = .ok (.iload 4, 2) := by decide +kernel
theorem d_La_law_558 : decode b_La_law 558 = .ok (.iconst 3, 1) := by decide +kernel
theorem d_La_law_559 : decode b_La_law 559 = .ok (.iadd, 1) := by decide +kernel
theorem d_La_law_560 : decode b_La_law 560 = .ok (.iaload, 1) := by decide +kernel
theorem d_La_law_561 : decode b_La_law 561 = .ok (.aload_n 0, 1) := by decide +kernel
theorem d_La_law_562 : decode b_La_law 562 = .ok (.iload 4, 2) := by decide +kernel
theorem d_La_law_564 : decode b_La_law 564 = .ok (.iconst 4, 1) := by decide +kernel
theorem d_La_law_565 : decode b_La_law 565 = .ok (.iadd, 1) := by decide +kernel
theorem d_La_law_566 : decode b_La_law 566 = .ok (.iaload, 1) := by decide +kernel
theorem d_La_law_567 : decode b_La_law 567 = .ok (.aload_n 3, 1) := by decide +kernel
theorem d_La_law_568 : decode b_La_law 568 = .ok (.invokestatic 90, 3) := by decide +kernel
theorem d_La_law_571 : decode b_La_law 571 = .ok (.istore 5, 2) := by decide +kernel
theorem d_La_law_573 : decode b_La_law 573 = .ok (.aload_n 2, 1) := by decide +kernel
theorem d_La_law_574 : decode b_La_law 574 = .ok (.aload_n 0, 1) := by decide +kernel
theorem d_La_law_575 : decode b_La_law 575 = .ok (.iload 4, 2) := by decide +kernel
theorem d_La_law_577 : decode b_La_law 577 = .ok (.iconst 1, 1) := by decide +kernel
theorem d_La_law_578 : decode b_La_law 578 = .ok (.iadd, 1) := by decide +kernel
theorem d_La_law_579 : decode b_La_law 579 = .ok (.iaload, 1) := by decide +kernel
theorem d_La_law_580 : decode b_La_law 580 = .ok (.aload_n 0, 1) := by decide +kernel
theorem d_La_law_581 : decode b_La_law 581 = .ok (.iload 4, 2) := by decide +kernel
theorem d_La_law_583 : decode b_La_law 583 = .ok (.iconst 2, 1) := by decide +kernel
theorem d_La_law_584 : decode b_La_law 584 = .ok (.iadd, 1) := by decide +kernel
theorem d_La_law_585 : decode b_La_law 585 = .ok (.iaload, 1) := by decide +kernel
theorem d_La_law_586 : decode b_La_law 586 = .ok (.aload_n 0, 1) := by decide +kernel
theorem d_La_law_587 : decode b_La_law 587 = .ok (.iload 4, 2) := by decide +kernel
theorem d_La_law_589 : decode b_La_law 589 = .ok (.iconst 3, 1) := by decide +kernel
theorem d_La_law_590 : decode b_La_law 590 = .ok (.iadd, 1) := by decide +kernel
theorem d_La_law_591 : decode b_La_law 591 = .ok (.iaload, 1) := by decide +kernel
theorem d_La_law_592 : decode b_La_law 592 = .ok (.aload_n 0, 1) := by decide +kernel
theorem d_La_law_593 : decode b_La_law 593 = .ok (.iload 4, 2) := by decide +kernel
theorem d_La_law_595 : decode b_La_law 595 = .ok (.iconst 4, 1) := by decide +kernel
theorem d_La_law_596 : decode b_La_law 596 = .ok (.iadd, 1) := by decide +kernel
theorem d_La_law_597 : decode b_La_law 597 = .ok (.iaload, 1) := by decide +kernel
theorem d_La_law_598 : decode b_La_law 598 = .ok (.invokevirtual 92, 3) := by decide +kernel
theorem d_La_law_601 : decode b_La_law 601 = .ok (.istore 6, 2) := by decide +kernel
theorem d_La_law_603 : decode b_La_law 603 = .ok (.aload_n 2, 1) := by decide +kernel
theorem d_La_law_604 : decode b_La_law 604 = .ok (.invokevirtual 58, 3) := by decide +kernel
theorem d_La_law_607 : decode b_La_law 607 = .ok (.iload 5, 2) := by decide +kernel
theorem d_La_law_609 : decode b_La_law 609 = .ok (.if_icmp .eq 5, 3) := by decide +kernel
theorem d_La_law_612 : decode b_La_law 612 = .ok (.iconst 0, 1) := by decide +kernel
theorem d_La_law_613 : decode b_La_law 613 = .ok (.ireturn, 1) := by decide +kernel
theorem d_La_law_614 : decode b_La_law 614 = .ok (.iload 5, 2) := by decide +kernel
theorem d_La_law_616 : decode b_La_law 616 = .ok (.ifCond .ne 15, 3) := by decide +kernel
theorem d_La_law_619 : decode b_La_law 619 = .ok (.aload_n 3, 1) := by decide +kernel
theorem d_La_law_620 : decode b_La_law 620 = .ok (.iconst 0, 1) := by decide +kernel
theorem d_La_law_621 : decode b_La_law 621 = .ok (.laload, 1) := by decide +kernel
theorem d_La_law_622 : decode b_La_law 622 = .ok (.iload 6, 2) := by decide +kernel
theorem d_La_law_624 : decode b_La_law 624 = .ok (.i2l, 1) := by decide +kernel
theorem d_La_law_625 : decode b_La_law 625 = .ok (.lcmp, 1) := by decide +kernel
theorem d_La_law_626 : decode b_La_law 626 = .ok (.ifCond .eq 5, 3) := by decide +kernel
theorem d_La_law_629 : decode b_La_law 629 = .ok (.iconst 0, 1) := by decide +kernel
theorem d_La_law_630 : decode b_La_law 630 = .ok (.ireturn, 1) := by decide +kernel
theorem d_La_law_631 : decode b_La_law 631 = .ok (.goto 83, 3) := by decide +kernel
theorem d_La_law_634 : decode b_La_law 634 = .ok (.aload_n 1, 1) := by decide +kernel
theorem d_La_law_635 : decode b_La_law 635 = .ok (.aload_n 0, 1) := by decide +kernel
theorem d_La_law_636 : decode b_La_law 636 = .ok (.iload 4, 2) := by decide +kernel
theorem d_La_law_638 : decode b_La_law 638 = .ok (.iconst 1, 1) := by decide +kernel
theorem d_La_law_639 : decode b_La_law 639 = .ok (.iadd, 1) := by decide +kernel
theorem d_La_law_640 : decode b_La_law 640 = .ok (.iaload, 1) := by decide +kernel
theorem d_La_law_641 : decode b_La_law 641 = .ok (.aload_n 0, 1) := by decide +kernel
theorem d_La_law_642 : decode b_La_law 642 = .ok (.iload 4, 2) := by decide +kernel
theorem d_La_law_644 : decode b_La_law 644 = .ok (.iconst 2, 1) := by decide +kernel
theorem d_La_law_645 : decode b_La_law 645 = .ok (.iadd, 1) := by decide +kernel
theorem d_La_law_646 : decode b_La_law 646 = .ok (.iaload, 1) := by decide +kernel
theorem d_La_law_647 : decode b_La_law 647 = .ok (.aload_n 0, 1) := by decide +kernel
theorem d_La_law_648 : decode b_La_law 648 = .ok (.iload 4, 2) := by decide +kernel
theorem d_La_law_650 : decode b_La_law 650 = .ok (.iconst 3, 1) := by decide +kernel
theorem d_La_law_651 : decode b_La_law 651 = .ok (.iadd, 1) := by decide +kernel
theorem d_La_law_652 : decode b_La_law 652 = .ok (.iaload, 1) := by decide +kernel
theorem d_La_law_653 : decode b_La_law 653 = .ok (.aload_n 3, 1) := by decide +kernel
theorem d_La_law_654 : decode b_La_law 654 = .ok (.invokestatic 93, 3) := by decide +kernel
theorem d_La_law_657 : decode b_La_law 657 = .ok (.istore 5, 2) := by decide +kernel
theorem d_La_law_659 : decode b_La_law 659 = .ok (.aload_n 2, 1) := by decide +kernel
theorem d_La_law_660 : decode b_La_law 660 = .ok (.aload_n 0, 1) := by decide +kernel
theorem d_La_law_661 : decode b_La_law 661 = .ok (.iload 4, 2) := by decide +kernel
theorem d_La_law_663 : decode b_La_law 663 = .ok (.iconst 1, 1) := by decide +kernel
theorem d_La_law_664 : decode b_La_law 664 = .ok (.iadd, 1) := by decide +kernel
theorem d_La_law_665 : decode b_La_law 665 = .ok (.iaload, 1) := by decide +kernel
theorem d_La_law_666 : decode b_La_law 666 = .ok (.aload_n 0, 1) := by decide +kernel
theorem d_La_law_667 : decode b_La_law 667 = .ok (.iload 4, 2) := by decide +kernel
theorem d_La_law_669 : decode b_La_law 669 = .ok (.iconst 2, 1) := by decide +kernel
theorem d_La_law_670 : decode b_La_law 670 = .ok (.iadd, 1) := by decide +kernel
theorem d_La_law_671 : decode b_La_law 671 = .ok (.iaload, 1) := by decide +kernel
theorem d_La_law_672 : decode b_La_law 672 = .ok (.aload_n 0, 1) := by decide +kernel
theorem d_La_law_673 : decode b_La_law 673 = .ok (.iload 4, 2) := by decide +kernel
theorem d_La_law_675 : decode b_La_law 675 = .ok (.iconst 3, 1) := by decide +kernel
theorem d_La_law_676 : decode b_La_law 676 = .ok (.iadd, 1) := by decide +kernel
theorem d_La_law_677 : decode b_La_law 677 = .ok (.iaload, 1) := by decide +kernel
theorem d_La_law_678 : decode b_La_law 678 = .ok (.invokevirtual 96, 3) := by decide +kernel
theorem d_La_law_681 : decode b_La_law 681 = .ok (.istore 6, 2) := by decide +kernel
theorem d_La_law_683 : decode b_La_law 683 = .ok (.aload_n 2, 1) := by decide +kernel
theorem d_La_law_684 : decode b_La_law 684 = .ok (.invokevirtual 58, 3) := by decide +kernel
theorem d_La_law_687 : decode b_La_law 687 = .ok (.iload 5, 2) := by decide +kernel
theorem d_La_law_689 : decode b_La_law 689 = .ok (.if_icmp .eq 5, 3) := by decide +kernel
theorem d_La_law_692 : decode b_La_law 692 = .ok (.iconst 0, 1) := by decide +kernel
theorem d_La_law_693 : decode b_La_law 693 = .ok (.ireturn, 1) := by decide +kernel
theorem d_La_law_694 : decode b_La_law 694 = .ok (.iload 5, 2) := by decide +kernel
theorem d_La_law_696 : decode b_La_law 696 = .ok (.ifCond .ne 15, 3) := by decide +kernel
theorem d_La_law_699 : decode b_La_law 699 = .ok (.aload_n 3, 1) := by decide +kernel
theorem d_La_law_700 : decode b_La_law 700 = .ok (.iconst 0, 1) := by decide +kernel
theorem d_La_law_701 : decode b_La_law 701 = .ok (.laload, 1) := by decide +kernel
theorem d_La_law_702 : decode b_La_law 702 = .ok (.iload 6, 2) := by decide +kernel
theorem d_La_law_704 : decode b_La_law 704 = .ok (.i2l, 1) := by decide +kernel
theorem d_La_law_705 : decode b_La_law 705 = .ok (.lcmp, 1) := by decide +kernel
theorem d_La_law_706 : decode b_La_law 706 = .ok (.ifCond .eq 5, 3) := by decide +kernel
theorem d_La_law_709 : decode b_La_law 709 = .ok (.iconst 0, 1) := by decide +kernel
theorem d_La_law_710 : decode b_La_law 710 = .ok (.ireturn, 1) := by decide +kernel
theorem d_La_law_711 : decode b_La_law 711 = .ok (.goto 3, 3) := by decide +kernel
theorem d_La_law_714 : decode b_La_law 714 = .ok (.iinc 4 5, 3) := by decide +kernel
theorem d_La_law_717 : decode b_La_law 717 = .ok (.goto (-694), 3) := by decide +kernel
theorem d_La_law_720 : decode b_La_law 720 = .ok (.iconst 1, 1) := by decide +kernel
theorem d_La_law_721 : decode b_La_law 721 = .ok (.ireturn, 1) := by decide +kernel
