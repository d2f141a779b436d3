/-! Decode rows of Mo. -/
theorem d_Mo_init_0 : decode b_Mo_init 0 = .ok (.aload_n 0, 1) := by decide +kernel
theorem d_Mo_init_1 : decode b_Mo_init 1 = .ok (.invokespecial 1, 3) := by decide +kernel
theorem d_Mo_init_4 : decode b_Mo_init 4 = .ok (.aload_n 0, 1) := by decide +kernel
theorem d_Mo_init_5 : decode b_Mo_init 5 = .ok (.bipush 24, 2) := by decide +kernel
theorem d_Mo_init_7 : decode b_Mo_init 7 = .ok (.newarray .int, 2) := by decide +kernel
theorem d_Mo_init_9 : decode b_Mo_init 9 = .ok (.putfield 7, 3) := by decide +kernel
theorem d_Mo_init_12 : decode b_Mo_init 12 = .ok (.aload_n 0, 1) := by decide +kernel
theorem d_Mo_init_13 : decode b_Mo_init 13 = .ok (.bipush 8, 2) := by decide +kernel
theorem d_Mo_init_15 : decode b_Mo_init 15 = .ok (.newarray .int, 2) := by decide +kernel
theorem d_Mo_init_17 : decode b_Mo_init 17 = .ok (.putfield 13, 3) := by decide +kernel
theorem d_Mo_init_20 : decode b_Mo_init 20 = .ok (.aload_n 0, 1) := by decide +kernel
theorem d_Mo_init_21 : decode b_Mo_init 21 = .ok (.bipush 24, 2) := by decide +kernel
theorem d_Mo_init_23 : decode b_Mo_init 23 = .ok (.newarray .long, 2) := by decide +kernel
theorem d_Mo_init_25 : decode b_Mo_init 25 = .ok (.putfield 16, 3) := by decide +kernel
theorem d_Mo_init_28 : decode b_Mo_init 28 = .ok (.aload_n 0, 1) := by decide +kernel
theorem d_Mo_init_29 : decode b_Mo_init 29 = .ok (.bipush 8, 2) := by decide +kernel
theorem d_Mo_init_31 : decode b_Mo_init 31 = .ok (.newarray .long, 2) := by decide +kernel
theorem d_Mo_init_33 : decode b_Mo_init 33 = .ok (.putfield 20, 3) := by decide +kernel
theorem d_Mo_init_36 : decode b_Mo_init 36 = .ok (.aload_n 0, 1) := by decide +kernel
theorem d_Mo_init_37 : decode b_Mo_init 37 = .ok (.bipush 8, 2) := by decide +kernel
theorem d_Mo_init_39 : decode b_Mo_init 39 = .ok (.newarray .long, 2) := by decide +kernel
theorem d_Mo_init_41 : decode b_Mo_init 41 = .ok (.putfield 23, 3) := by decide +kernel
theorem d_Mo_init_44 : decode b_Mo_init 44 = .ok (.aload_n 0, 1) := by decide +kernel
theorem d_Mo_init_45 : decode b_Mo_init 45 = .ok (.bipush 8, 2) := by decide +kernel
theorem d_Mo_init_47 : decode b_Mo_init 47 = .ok (.newarray .long, 2) := by decide +kernel
theorem d_Mo_init_49 : decode b_Mo_init 49 = .ok (.putfield 26, 3) := by decide +kernel
theorem d_Mo_init_52 : decode b_Mo_init 52 = .ok (.return_, 1) := by decide +kernel
theorem d_Mo_thrown_0 : decode b_Mo_thrown 0 = .ok (.aload_n 0, 1) := by decide +kernel
theorem d_Mo_thrown_1 : decode b_Mo_thrown 1 = .ok (.getfield 29, 3) := by decide +kernel
theorem d_Mo_thrown_4 : decode b_Mo_thrown 4 = .ok (.ireturn, 1) := by decide +kernel
theorem d_Mo_within_0 : decode b_Mo_within 0 = .ok (.iload_n 0, 1) := by decide +kernel
theorem d_Mo_within_1 : decode b_Mo_within 1 = .ok (.iload_n 1, 1) := by decide +kernel
theorem d_Mo_within_2 : decode b_Mo_within 2 = .ok (.ineg, 1) := by decide +kernel
theorem d_Mo_within_3 : decode b_Mo_within 3 = .ok (.if_icmp .lt 12, 3) := by decide +kernel
theorem d_Mo_within_6 : decode b_Mo_within 6 = .ok (.iload_n 0, 1) := by decide +kernel
theorem d_Mo_within_7 : decode b_Mo_within 7 = .ok (.iload_n 1, 1) := by decide +kernel
theorem d_Mo_within_8 : decode b_Mo_within 8 = .ok (.if_icmp .gt 7, 3) := by decide +kernel
theorem d_Mo_within_11 : decode b_Mo_within 11 = .ok (.iconst 1, 1) := by decide +kernel
theorem d_Mo_within_12 : decode b_Mo_within 12 = .ok (.goto 4, 3) := by decide +kernel
theorem d_Mo_within_15 : decode b_Mo_within 15 = .ok (.iconst 0, 1) := by decide +kernel
theorem d_Mo_within_16 : decode b_Mo_within 16 = .ok (.ireturn, 1) := by decide +kernel
theorem d_Mo_plane_0 : decode b_Mo_plane 0 = .ok (.iload_n 1, 1) := by decide +kernel
theorem d_Mo_plane_1 : decode b_Mo_plane 1 = .ok (.ldc 33, 2) := by decide +kernel
theorem d_Mo_plane_3 : decode b_Mo_plane 3 = .ok (.invokestatic 34, 3) := by decide +kernel
theorem d_Mo_plane_6 : decode b_Mo_plane 6 = .ok (.ifCond .eq 47, 3) := by decide +kernel
theorem d_Mo_plane_9 : decode b_Mo_plane 9 = .ok (.iload_n 2, 1) := by decide +kernel
theorem d_Mo_plane_10 : decode b_Mo_plane 10 = .ok (.ldc 33, 2) := by decide +kernel
theorem d_Mo_plane_12 : decode b_Mo_plane 12 = .ok (.invokestatic 34, 3) := by decide +kernel
theorem d_Mo_plane_15 : decode b_Mo_plane 15 = .ok (.ifCond .eq 38, 3) := by decide +kernel
theorem d_Mo_plane_18 : decode b_Mo_plane 18 = .ok (.iload_n 3, 1) := by decide +kernel
theorem d_Mo_plane_19 : decode b_Mo_plane 19 = .ok (.ldc 33, 2) := by decide +kernel
theorem d_Mo_plane_21 : decode b_Mo_plane 21 = .ok (.invokestatic 34, 3) := by decide +kernel
theorem d_Mo_plane_24 : decode b_Mo_plane 24 = .ok (.ifCond .eq 29, 3) := by decide +kernel
theorem d_Mo_plane_27 : decode b_Mo_plane 27 = .ok (.iload 4, 2) := by decide +kernel
theorem d_Mo_plane_29 : decode b_Mo_plane 29 = .ok (.ldc 38, 2) := by decide +kernel
theorem d_Mo_plane_31 : decode b_Mo_plane 31 = .ok (.invokestatic 34, 3) := by decide +kernel
theorem d_Mo_plane_34 : decode b_Mo_plane 34 = .ok (.ifCond .eq 19, 3) := by decide +kernel
theorem d_Mo_plane_37 : decode b_Mo_plane 37 = .ok (.iload_n 1, 1) := by decide +kernel
theorem d_Mo_plane_38 : decode b_Mo_plane 38 = .ok (.ifCond .ne 11, 3) := by decide +kernel
theorem d_Mo_plane_41 : decode b_Mo_plane 41 = .ok (.iload_n 2, 1) := by decide +kernel
theorem d_Mo_plane_42 : decode b_Mo_plane 42 = .ok (.ifCond .ne 7, 3) := by decide +kernel
theorem d_Mo_plane_45 : decode b_Mo_plane 45 = .ok (.iload_n 3, 1) := by decide +kernel
theorem d_Mo_plane_46 : decode b_Mo_plane 46 = .ok (.ifCond .eq 7, 3) := by decide +kernel
theorem d_Mo_plane_49 : decode b_Mo_plane 49 = .ok (.iconst 1, 1) := by decide +kernel
theorem d_Mo_plane_50 : decode b_Mo_plane 50 = .ok (.goto 4, 3) := by decide +kernel
theorem d_Mo_plane_53 : decode b_Mo_plane 53 = .ok (.iconst 0, 1) := by decide +kernel
theorem d_Mo_plane_54 : decode b_Mo_plane 54 = .ok (.istore 5, 2) := by decide +kernel
theorem d_Mo_plane_56 : decode b_Mo_plane 56 = .ok (.aload_n 0, 1) := by decide +kernel
theorem d_Mo_plane_57 : decode b_Mo_plane 57 = .ok (.iload 5, 2) := by decide +kernel
theorem d_Mo_plane_59 : decode b_Mo_plane 59 = .ok (.ifCond .ne 7, 3) := by decide +kernel
theorem d_Mo_plane_62 : decode b_Mo_plane 62 = .ok (.iconst 1, 1) := by decide +kernel
theorem d_Mo_plane_63 : decode b_Mo_plane 63 = .ok (.goto 17, 3) := by decide +kernel
theorem d_Mo_plane_66 : decode b_Mo_plane 66 = .ok (.aload_n 0, 1) := by decide +kernel
theorem d_Mo_plane_67 : decode b_Mo_plane 67 = .ok (.getfield 39, 3) := by decide +kernel
theorem d_Mo_plane_70 : decode b_Mo_plane 70 = .ok (.bipush 8, 2) := by decide +kernel
theorem d_Mo_plane_72 : decode b_Mo_plane 72 = .ok (.if_icmp .ne 7, 3) := by decide +kernel
theorem d_Mo_plane_75 : decode b_Mo_plane 75 = .ok (.iconst 2, 1) := by decide +kernel
theorem d_Mo_plane_76 : decode b_Mo_plane 76 = .ok (.goto 4, 3) := by decide +kernel
theorem d_Mo_plane_79 : decode b_Mo_plane 79 = .ok (.iconst 0, 1) := by decide +kernel
theorem d_Mo_plane_80 : decode b_Mo_plane 80 = .ok (.putfield 29, 3) := by decide +kernel
theorem d_Mo_plane_83 : decode b_Mo_plane 83 = .ok (.aload_n 0, 1) := by decide +kernel
theorem d_Mo_plane_84 : decode b_Mo_plane 84 = .ok (.getfield 29, 3) := by decide +kernel
theorem d_Mo_plane_87 : decode b_Mo_plane 87 = .ok (.ifCond .le 5, 3) := by decide +kernel
theorem d_Mo_plane_90 : decode b_Mo_plane 90 = .ok (.iconst 0, 1) := by decide +kernel
theorem d_Mo_plane_91 : decode b_Mo_plane 91 = .ok (.ireturn, 1) := by decide +kernel
theorem d_Mo_plane_92 : decode b_Mo_plane 92 = .ok (.aload_n 0, 1) := by decide +kernel
theorem d_Mo_plane_93 : decode b_Mo_plane 93 = .ok (.getfield 7, 3) := by decide +kernel
theorem d_Mo_plane_96 : decode b_Mo_plane 96 = .ok (.iconst 3, 1) := by decide +kernel
theorem d_Mo_plane_97 : decode b_Mo_plane 97 = .ok (.aload_n 0, 1) := by decide +kernel
theorem d_Mo_plane_98 : decode b_Mo_plane 98 = .ok (.getfield 39, 3) := by decide +kernel
theorem d_Mo_plane_101 : decode b_Mo_plane 101 = .ok (.imul, 1) := by decide +kernel
theorem d_Mo_plane_102 : decode b_Mo_plane 102 = .ok (.iload_n 1, 1) := by decide +kernel
theorem d_Mo_plane_103 : decode b_Mo_plane 103 = .ok (.iastore, 1) := by decide +kernel
theorem d_Mo_plane_104 : decode b_Mo_plane 104 = .ok (.aload_n 0, 1) := by decide +kernel
theorem d_Mo_plane_105 : decode b_Mo_plane 105 = .ok (.getfield 7, 3) := by decide +kernel
theorem d_Mo_plane_108 : decode b_Mo_plane 108 = .ok (.iconst 3, 1) := by decide +kernel
theorem d_Mo_plane_109 : decode b_Mo_plane 109 = .ok (.aload_n 0, 1) := by decide +kernel
theorem d_Mo_plane_110 : decode b_Mo_plane 110 = .ok (.getfield 39, 3) := by decide +kernel
theorem d_Mo_plane_113 : decode b_Mo_plane 113 = .ok (.imul, 1) := by decide +kernel
theorem d_Mo_plane_114 : decode b_Mo_plane 114 = .ok (.iconst 1, 1) := by decide +kernel
theorem d_Mo_plane_115 : decode b_Mo_plane 115 = .ok (.iadd, 1) := by decide +kernel
theorem d_Mo_plane_116 : decode b_Mo_plane 116 = .ok (.iload_n 2, 1) := by decide +kernel
theorem d_Mo_plane_117 : decode b_Mo_plane 117 = .ok (.iastore, 1) := by decide +kernel
theorem d_Mo_plane_118 : decode b_Mo_plane 118 = .ok (.aload_n 0, 1) := by decide +kernel
theorem d_Mo_plane_119 : decode b_Mo_plane 119 = .ok (.getfield 7, 3) := by decide +kernel
theorem d_Mo_plane_122 : decode b_Mo_plane 122 = .ok (.iconst 3, 1) := by decide +kernel
theorem d_Mo_plane_123 : decode b_Mo_plane 123 = .ok (.aload_n 0, 1) := by decide +kernel
theorem d_Mo_plane_124 : decode b_Mo_plane 124 = .ok (.getfield 39, 3) := by decide +kernel
theorem d_Mo_plane_127 : decode b_Mo_plane 127 = .ok (.imul, 1) := by decide +kernel
theorem d_Mo_plane_128 : decode b_Mo_plane 128 = .ok (.iconst 2, 1) := by decide +kernel
theorem d_Mo_plane_129 : decode b_Mo_plane 129 = .ok (.iadd, 1) := by decide +kernel
theorem d_Mo_plane_130 : decode b_Mo_plane 130 = .ok (.iload_n 3, 1) := by decide +kernel
theorem d_Mo_plane_131 : decode b_Mo_plane 131 = .ok (.iastore, 1) := by decide +kernel
theorem d_Mo_plane_132 : decode b_Mo_plane 132 = .ok (.aload_n 0, 1) := by decide +kernel
theorem d_Mo_plane_133 : decode b_Mo_plane 133 = .ok (.getfield 13, 3) := by decide +kernel
theorem d_Mo_plane_136 : decode b_Mo_plane 136 = .ok (.aload_n 0, 1) := by decide +kernel
theorem d_Mo_plane_137 : decode b_Mo_plane 137 = .ok (.getfield 39, 3) := by decide +kernel
theorem d_Mo_plane_140 : decode b_Mo_plane 140 = .ok (.iload 4, 2) := by decide +kernel
theorem d_Mo_plane_142 : decode b_Mo_plane 142 = .ok (.iastore, 1) := by decide +kernel
theorem d_Mo_plane_143 : decode b_Mo_plane 143 = .ok (.aload_n 0, 1) := by decide +kernel
theorem d_Mo_plane_144 : decode b_Mo_plane 144 = .ok (.dup, 1) := by decide +kernel
theorem d_Mo_plane_145 : decode b_Mo_plane 145 = .ok (.getfield 39, 3) := by decide +kernel
theorem d_Mo_plane_148 : decode b_Mo_plane 148 = .ok (.iconst 1, 1) := by decide +kernel
theorem d_Mo_plane_149 : decode b_Mo_plane 149 = .ok (.iadd, 1) := by decide +kernel
theorem d_Mo_plane_150 : decode b_Mo_plane 150 = .ok (.putfield 39, 3) := by decide +kernel
theorem d_Mo_plane_153 : decode b_Mo_plane 153 = .ok (.aload_n 0, 1) := by decide +kernel
theorem d_Mo_plane_154 : decode b_Mo_plane 154 = .ok (.getfield 39, 3) := by decide +kernel
theorem d_Mo_plane_157 : decode b_Mo_plane 157 = .ok (.iconst 1, 1) := by decide +kernel
theorem d_Mo_plane_158 : decode b_Mo_plane 158 = .ok (.isub, 1) := by decide +kernel
theorem d_Mo_plane_159 : decode b_Mo_plane 159 = .ok (.ireturn, 1) := by decide +kernel
theorem d_Mo_planes_0 : decode b_Mo_planes 0 = .ok (.aload_n 0, 1) := by decide +kernel
theorem d_Mo_planes_1 : decode b_Mo_planes 1 = .ok (.iconst 0, 1) := by decide +kernel
theorem d_Mo_planes_2 : decode b_Mo_planes 2 = .ok (.putfield 29, 3) := by decide +kernel
theorem d_Mo_planes_5 : decode b_Mo_planes 5 = .ok (.aload_n 0, 1) := by decide +kernel
theorem d_Mo_planes_6 : decode b_Mo_planes 6 = .ok (.getfield 39, 3) := by decide +kernel
theorem d_Mo_planes_9 : decode b_Mo_planes 9 = .ok (.ireturn, 1) := by decide +kernel
theorem d_Mo_convex_0 : decode b_Mo_convex 0 = .ok (.aload_n 0, 1) := by decide +kernel
theorem d_Mo_convex_1 : decode b_Mo_convex 1 = .ok (.iload_n 1, 1) := by decide +kernel
theorem d_Mo_convex_2 : decode b_Mo_convex 2 = .ok (.ifCond .lt 12, 3) := by decide +kernel
theorem d_Mo_convex_5 : decode b_Mo_convex 5 = .ok (.iload_n 1, 1) := by decide +kernel
theorem d_Mo_convex_6 : decode b_Mo_convex 6 = .ok (.aload_n 0, 1) := by decide +kernel
theorem d_Mo_convex_7 : decode b_Mo_convex 7 = .ok (.getfield 39, 3) := by decide +kernel
theorem d_Mo_convex_10 : decode b_Mo_convex 10 = .ok (.ishr, 1) := by decide +kernel
theorem d_Mo_convex_11 : decode b_Mo_convex 11 = .ok (.ifCond .le 7, 3) := by decide +kernel
theorem d_Mo_convex_14 : decode b_Mo_convex 14 = .ok (.iconst 1, 1) := by decide +kernel
theorem d_Mo_convex_15 : decode b_Mo_convex 15 = .ok (.goto 17, 3) := by decide +kernel
theorem d_Mo_convex_18 : decode b_Mo_convex 18 = .ok (.aload_n 0, 1) := by decide +kernel
theorem d_Mo_convex_19 : decode b_Mo_convex 19 = .ok (.getfield 42, 3) := by decide +kernel
theorem d_Mo_convex_22 : decode b_Mo_convex 22 = .ok (.bipush 6, 2) := by decide +kernel
theorem d_Mo_convex_24 : decode b_Mo_convex 24 = .ok (.if_icmp .ne 7, 3) := by decide +kernel
theorem d_Mo_convex_27 : decode b_Mo_convex 27 = .ok (.iconst 2, 1) := by decide +kernel
theorem d_Mo_convex_28 : decode b_Mo_convex 28 = .ok (.goto 4, 3) := by decide +kernel
theorem d_Mo_convex_31 : decode b_Mo_convex 31 = .ok (.iconst 0, 1) := by decide +kernel
theorem d_Mo_convex_32 : decode b_Mo_convex 32 = .ok (.putfield 29, 3) := by decide +kernel
theorem d_Mo_convex_35 : decode b_Mo_convex 35 = .ok (.aload_n 0, 1) := by decide +kernel
theorem d_Mo_convex_36 : decode b_Mo_convex 36 = .ok (.getfield 29, 3) := by decide +kernel
theorem d_Mo_convex_39 : decode b_Mo_convex 39 = .ok (.ifCond .le 5, 3) := by decide +kernel
theorem d_Mo_convex_42 : decode b_Mo_convex 42 = .ok (.iconst 0, 1) := by decide +kernel
theorem d_Mo_convex_43 : decode b_Mo_convex 43 = .ok (.ireturn, 1) := by decide +kernel
theorem d_Mo_convex_44 : decode b_Mo_convex 44 = .ok (.iconst 0, 1) := by decide +kernel
theorem d_Mo_convex_45 : decode b_Mo_convex 45 = .ok (.istore_n 2, 1) := by decide +kernel
theorem d_Mo_convex_46 : decode b_Mo_convex 46 = .ok (.iload_n 2, 1) := by decide +kernel
theorem d_Mo_convex_47 : decode b_Mo_convex 47 = .ok (.iconst 4, 1) := by decide +kernel
theorem d_Mo_convex_48 : decode b_Mo_convex 48 = .ok (.if_icmp .ge 23, 3) := by decide +kernel
theorem d_Mo_convex_51 : decode b_Mo_convex 51 = .ok (.aload_n 0, 1) := by decide +kernel
theorem d_Mo_convex_52 : decode b_Mo_convex 52 = .ok (.getfield 16, 3) := by decide +kernel
theorem d_Mo_convex_55 : decode b_Mo_convex 55 = .ok (.iconst 4, 1) := by decide +kernel
theorem d_Mo_convex_56 : decode b_Mo_convex 56 = .ok (.aload_n 0, 1) := by decide +kernel
theorem d_Mo_convex_57 : decode b_Mo_convex 57 = .ok (.getfield 42, 3) := by decide +kernel
theorem d_Mo_convex_60 : decode b_Mo_convex 60 = .ok (.imul, 1) := by decide +kernel
theorem d_Mo_convex_61 : decode b_Mo_convex 61 = .ok (.iload_n 2, 1) := by decide +kernel
theorem d_Mo_convex_62 : decode b_Mo_convex 62 = .ok (.iadd, 1) := by decide +kernel
theorem d_Mo_convex_63 : decode b_Mo_convex 63 = .ok (.lconst 0, 1) := by decide +kernel
theorem d_Mo_convex_64 : decode b_Mo_convex 64 = .ok (.lastore, 1) := by decide +kernel
theorem d_Mo_convex_65 : decode b_Mo_convex 65 = .ok (.iinc 2 1, 3) := by decide +kernel
theorem d_Mo_convex_68 : decode b_Mo_convex 68 = .ok (.goto (-22), 3) := by decide +kernel
theorem d_Mo_convex_71 : decode b_Mo_convex 71 = .ok (.iconst 0, 1) := by decide +kernel
theorem d_Mo_convex_72 : decode b_Mo_convex 72 = .ok (.istore_n 2, 1) := by decide +kernel
theorem d_Mo_convex_73 : decode b_Mo_convex 73 = .ok (.iload_n 2, 1) := by decide +kernel
theorem d_Mo_convex_74 : decode b_Mo_convex 74 = .ok (.sipush 256, 3) := by decide +kernel
theorem d_Mo_convex_77 : decode b_Mo_convex 77 = .ok (.if_icmp .ge 41, 3) := by decide +kernel
theorem d_Mo_convex_80 : decode b_Mo_convex 80 = .ok (.iload_n 2, 1) := by decide +kernel
theorem d_Mo_convex_81 : decode b_Mo_convex 81 = .ok (.iload_n 1, 1) := by decide +kernel
theorem d_Mo_convex_82 : decode b_Mo_convex 82 = .ok (.iand, 1) := by decide +kernel
theorem d_Mo_convex_83 : decode b_Mo_convex 83 = .ok (.iload_n 1, 1) := by decide +kernel
theorem d_Mo_convex_84 : decode b_Mo_convex 84 = .ok (.if_icmp .ne 28, 3) := by decide +kernel
theorem d_Mo_convex_87 : decode b_Mo_convex 87 = .ok (.aload_n 0, 1) := by decide +kernel
theorem d_Mo_convex_88 : decode b_Mo_convex 88 = .ok (.getfield 16, 3) := by decide +kernel
theorem d_Mo_convex_91 : decode b_Mo_convex 91 = .ok (.iconst 4, 1) := by decide +kernel
theorem d_Mo_convex_92 : decode b_Mo_convex 92 = .ok (.aload_n 0, 1) := by decide +kernel
theorem d_Mo_convex_93 : decode b_Mo_convex 93 = .ok (.getfield 42, 3) := by decide +kernel
theorem d_Mo_convex_96 : decode b_Mo_convex 96 = .ok (.imul, 1) := by decide +kernel
theorem d_Mo_convex_97 : decode b_Mo_convex 97 = .ok (.iload_n 2, 1) := by decide +kernel
theorem d_Mo_convex_98 : decode b_Mo_convex 98 = .ok (.bipush 64, 2) := by decide +kernel
theorem d_Mo_convex_100 : decode b_Mo_convex 100 = .ok (.idiv, 1) := by decide +kernel
theorem d_Mo_convex_101 : decode b_Mo_convex 101 = .ok (.iadd, 1) := by decide +kernel
theorem d_Mo_convex_102 : decode b_Mo_convex 102 = .ok (.dup2, 1) := by decide +kernel
theorem d_Mo_convex_103 : decode b_Mo_convex 103 = .ok (.laload, 1) := by decide +kernel
theorem d_Mo_convex_104 : decode b_Mo_convex 104 = .ok (.lconst 1, 1) := by decide +kernel
theorem d_Mo_convex_105 : decode b_Mo_convex 105 = .ok (.iload_n 2, 1) := by decide +kernel
theorem d_Mo_convex_106 : decode b_Mo_convex 106 = .ok (.bipush 64, 2) := by decide +kernel
theorem d_Mo_convex_108 : decode b_Mo_convex 108 = .ok (.irem, 1) := by decide +kernel
theorem d_Mo_convex_109 : decode b_Mo_convex 109 = .ok (.lshl, 1) := by decide +kernel
theorem d_Mo_convex_110 : decode b_Mo_convex 110 = .ok (.lor, 1) := by decide +kernel
theorem d_Mo_convex_111 : decode b_Mo_convex 111 = .ok (.lastore, 1) := by decide +kernel
theorem d_Mo_convex_112 : decode b_Mo_convex 112 = .ok (.iinc 2 1, 3) := by decide +kernel
theorem d_Mo_convex_115 : decode b_Mo_convex 115 = .ok (.goto (-42), 3) := by decide +kernel
theorem d_Mo_convex_118 : decode b_Mo_convex 118 = .ok (.aload_n 0, 1) := by decide +kernel
theorem d_Mo_convex_119 : decode b_Mo_convex 119 = .ok (.dup, 1) := by decide +kernel
theorem d_Mo_convex_120 : decode b_Mo_convex 120 = .ok (.getfield 42, 3) := by decide +kernel
theorem d_Mo_convex_123 : decode b_Mo_convex 123 = .ok (.iconst 1, 1) := by decide +kernel
theorem d_Mo_convex_124 : decode b_Mo_convex 124 = .ok (.iadd, 1) := by decide +kernel
theorem d_Mo_convex_125 : decode b_Mo_convex 125 = .ok (.putfield 42, 3) := by decide +kernel
theorem d_Mo_convex_128 : decode b_Mo_convex 128 = .ok (.aload_n 0, 1) := by decide +kernel
theorem d_Mo_convex_129 : decode b_Mo_convex 129 = .ok (.getfield 42, 3) := by decide +kernel
theorem d_Mo_convex_132 : decode b_Mo_convex 132 = .ok (.ireturn, 1) := by decide +kernel
theorem d_Mo_join_0 : decode b_Mo_join 0 = .ok (.aload_n 0, 1) := by decide +kernel
theorem d_Mo_join_1 : decode b_Mo_join 1 = .ok (.iload_n 1, 1) := by decide +kernel
theorem d_Mo_join_2 : decode b_Mo_join 2 = .ok (.ifCond .lt 8, 3) := by decide +kernel
theorem d_Mo_join_5 : decode b_Mo_join 5 = .ok (.iload_n 1, 1) := by decide +kernel
theorem d_Mo_join_6 : decode b_Mo_join 6 = .ok (.iconst 3, 1) := by decide +kernel
theorem d_Mo_join_7 : decode b_Mo_join 7 = .ok (.if_icmp .le 7, 3) := by decide +kernel
theorem d_Mo_join_10 : decode b_Mo_join 10 = .ok (.iconst 1, 1) := by decide +kernel
theorem d_Mo_join_11 : decode b_Mo_join 11 = .ok (.goto 16, 3) := by decide +kernel
theorem d_Mo_join_14 : decode b_Mo_join 14 = .ok (.aload_n 0, 1) := by decide +kernel
theorem d_Mo_join_15 : decode b_Mo_join 15 = .ok (.getfield 42, 3) := by decide +kernel
theorem d_Mo_join_18 : decode b_Mo_join 18 = .ok (.iconst 2, 1) := by decide +kernel
theorem d_Mo_join_19 : decode b_Mo_join 19 = .ok (.if_icmp .ge 7, 3) := by decide +kernel
theorem d_Mo_join_22 : decode b_Mo_join 22 = .ok (.iconst 2, 1) := by decide +kernel
theorem d_Mo_join_23 : decode b_Mo_join 23 = .ok (.goto 4, 3) := by decide +kernel
theorem d_Mo_join_26 : decode b_Mo_join 26 = .ok (.iconst 0, 1) := by decide +kernel
theorem d_Mo_join_27 : decode b_Mo_join 27 = .ok (.putfield 29, 3) := by decide +kernel
theorem d_Mo_join_30 : decode b_Mo_join 30 = .ok (.aload_n 0, 1) := by decide +kernel
theorem d_Mo_join_31 : decode b_Mo_join 31 = .ok (.getfield 29, 3) := by decide +kernel
theorem d_Mo_join_34 : decode b_Mo_join 34 = .ok (.ifCond .le 5, 3) := by decide +kernel
theorem d_Mo_join_37 : decode b_Mo_join 37 = .ok (.iconst 0, 1) := by decide +kernel
theorem d_Mo_join_38 : decode b_Mo_join 38 = .ok (.ireturn, 1) := by decide +kernel
theorem d_Mo_join_39 : decode b_Mo_join 39 = .ok (.aload_n 0, 1) := by decide +kernel
theorem d_Mo_join_40 : decode b_Mo_join 40 = .ok (.dup, 1) := by decide +kernel
theorem d_Mo_join_41 : decode b_Mo_join 41 = .ok (.getfield 42, 3) := by decide +kernel
theorem d_Mo_join_44 : decode b_Mo_join 44 = .ok (.iconst 1, 1) := by decide +kernel
theorem d_Mo_join_45 : decode b_Mo_join 45 = .ok (.isub, 1) := by decide +kernel
theorem d_Mo_join_46 : decode b_Mo_join 46 = .ok (.putfield 42, 3) := by decide +kernel
theorem d_Mo_join_49 : decode b_Mo_join 49 = .ok (.iconst 0, 1) := by decide +kernel
theorem d_Mo_join_50 : decode b_Mo_join 50 = .ok (.istore_n 2, 1) := by decide +kernel
theorem d_Mo_join_51 : decode b_Mo_join 51 = .ok (.iload_n 2, 1) := by decide +kernel
theorem d_Mo_join_52 : decode b_Mo_join 52 = .ok (.iconst 4, 1) := by decide +kernel
theorem d_Mo_join_53 : decode b_Mo_join 53 = .ok (.if_icmp .ge 98, 3) := by decide +kernel
theorem d_Mo_join_56 : decode b_Mo_join 56 = .ok (.aload_n 0, 1) := by decide +kernel
theorem d_Mo_join_57 : decode b_Mo_join 57 = .ok (.getfield 16, 3) := by decide +kernel
theorem d_Mo_join_60 : decode b_Mo_join 60 = .ok (.iconst 4, 1) := by decide +kernel
theorem d_Mo_join_61 : decode b_Mo_join 61 = .ok (.aload_n 0, 1) := by decide +kernel
theorem d_Mo_join_62 : decode b_Mo_join 62 = .ok (.getfield 42, 3) := by decide +kernel
theorem d_Mo_join_65 : decode b_Mo_join 65 = .ok (.imul, 1) := by decide +kernel
theorem d_Mo_join_66 : decode b_Mo_join 66 = .ok (.iconst 4, 1) := by decide +kernel
theorem d_Mo_join_67 : decode b_Mo_join 67 = .ok (.isub, 1) := by decide +kernel
theorem d_Mo_join_68 : decode b_Mo_join 68 = .ok (.iload_n 2, 1) := by decide +kernel
theorem d_Mo_join_69 : decode b_Mo_join 69 = .ok (.iadd, 1) := by decide +kernel
theorem d_Mo_join_70 : decode b_Mo_join 70 = .ok (.laload, 1) := by decide +kernel
theorem d_Mo_join_71 : decode b_Mo_join 71 = .ok (.lstore_n 3, 1) := by decide +kernel
theorem d_Mo_join_72 : decode b_Mo_join 72 = .ok (.aload_n 0, 1) := by decide +kernel
theorem d_Mo_join_73 : decode b_Mo_join 73 = .ok (.getfield 16, 3) := by decide +kernel
theorem d_Mo_join_76 : decode b_Mo_join 76 = .ok (.iconst 4, 1) := by decide +kernel
theorem d_Mo_join_77 : decode b_Mo_join 77 = .ok (.aload_n 0, 1) := by decide +kernel
theorem d_Mo_join_78 : decode b_Mo_join 78 = .ok (.getfield 42, 3) := by decide +kernel
theorem d_Mo_join_81 : decode b_Mo_join 81 = .ok (.imul, 1) := by decide +kernel
theorem d_Mo_join_82 : decode b_Mo_join 82 = .ok (.iload_n 2, 1) := by decide +kernel
theorem d_Mo_join_83 : decode b_Mo_join 83 = .ok (.iadd, 1) := by decide +kernel
theorem d_Mo_join_84 : decode b_Mo_join 84 = .ok (.laload, 1) := by decide +kernel
theorem d_Mo_join_85 : decode b_Mo_join 85 = .ok (.lstore 5, 2) := by decide +kernel
theorem d_Mo_join_87 : decode b_Mo_join 87 = .ok (.aload_n 0, 1) := by decide +kernel
theorem d_Mo_join_88 : decode b_Mo_join 88 = .ok (.getfield 16, 3) := by decide +kernel
theorem d_Mo_join_91 : decode b_Mo_join 91 = .ok (.iconst 4, 1) := by decide +kernel
theorem d_Mo_join_92 : decode b_Mo_join 92 = .ok (.aload_n 0, 1) := by decide +kernel
theorem d_Mo_join_93 : decode b_Mo_join 93 = .ok (.getfield 42, 3) := by decide +kernel
theorem d_Mo_join_96 : decode b_Mo_join 96 = .ok (.imul, 1) := by decide +kernel
theorem d_Mo_join_97 : decode b_Mo_join 97 = .ok (.iconst 4, 1) := by decide +kernel
theorem d_Mo_join_98 : decode b_Mo_join 98 = .ok (.isub, 1) := by decide +kernel
theorem d_Mo_join_99 : decode b_Mo_join 99 = .ok (.iload_n 2, 1) := by decide +kernel
theorem d_Mo_join_100 : decode b_Mo_join 100 = .ok (.iadd, 1) := by decide +kernel
theorem d_Mo_join_101 : decode b_Mo_join 101 = .ok (.iload_n 1, 1) := by decide +kernel
theorem d_Mo_join_102 : decode b_Mo_join 102 = .ok (.ifCond .ne 10, 3) := by decide +kernel
theorem d_Mo_join_105 : decode b_Mo_join 105 = .ok (.lload_n 3, 1) := by decide +kernel
theorem d_Mo_join_106 : decode b_Mo_join 106 = .ok (.lload 5, 2) := by decide +kernel
theorem d_Mo_join_108 : decode b_Mo_join 108 = .ok (.lor, 1) := by decide +kernel
theorem d_Mo_join_109 : decode b_Mo_join 109 = .ok (.goto 35, 3) := by decide +kernel
theorem d_Mo_join_112 : decode b_Mo_join 112 = .ok (.iload_n 1, 1) := by decide +kernel
theorem d_Mo_join_113 : decode b_Mo_join 113 = .ok (.iconst 1, 1) := by decide +kernel
theorem d_Mo_join_114 : decode b_Mo_join 114 = .ok (.if_icmp .ne 10, 3) := by decide +kernel
theorem d_Mo_join_117 : decode b_Mo_join 117 = .ok (.lload_n 3, 1) := by decide +kernel
theorem d_Mo_join_118 : decode b_Mo_join 118 = .ok (.lload 5, 2) := by decide +kernel
theorem d_Mo_join_120 : decode b_Mo_join 120 = .ok (.land, 1) := by decide +kernel
theorem d_Mo_join_121 : decode b_Mo_join 121 = .ok (.goto 23, 3) := by decide +kernel
theorem d_Mo_join_124 : decode b_Mo_join 124 = .ok (.iload_n 1, 1) := by decide +kernel
theorem d_Mo_join_125 : decode b_Mo_join 125 = .ok (.iconst 2, 1) := by decide +kernel
theorem d_Mo_join_126 : decode b_Mo_join 126 = .ok (.if_icmp .ne 14, 3) := by decide +kernel
theorem d_Mo_join_129 : decode b_Mo_join 129 = .ok (.lload_n 3, 1) := by decide +kernel
theorem d_Mo_join_130 : decode b_Mo_join 130 = .ok (.lload 5, 2) := by decide +kernel
theorem d_Mo_join_132 : decode b_Mo_join 132 = .ok (.ldc2_w 45, 3) := by decide +kernel
theorem d_Mo_join_135 : decode b_Mo_join 135 = .ok (.lxor, 1) := by decide +kernel
theorem d_Mo_join_136 : decode b_Mo_join 136 = .ok (.land, 1) := by decide +kernel
theorem d_Mo_join_137 : decode b_Mo_join 137 = .ok (.goto 7, 3) := by decide +kernel
theorem d_Mo_join_140 : decode b_Mo_join 140 = .ok (.lload_n 3, 1) := by decide +kernel
theorem d_Mo_join_141 : decode b_Mo_join 141 = .ok (.lload 5, 2) := by decide +kernel
theorem d_Mo_join_143 : decode b_Mo_join 143 = .ok (.lxor, 1) := by decide +kernel
theorem d_Mo_join_144 : decode b_Mo_join 144 = .ok (.lastore, 1) := by decide +kernel
theorem d_Mo_join_145 : decode b_Mo_join 145 = .ok (.iinc 2 1, 3) := by decide +kernel
theorem d_Mo_join_148 : decode b_Mo_join 148 = .ok (.goto (-97), 3) := by decide +kernel
theorem d_Mo_join_151 : decode b_Mo_join 151 = .ok (.aload_n 0, 1) := by decide +kernel
theorem d_Mo_join_152 : decode b_Mo_join 152 = .ok (.getfield 42, 3) := by decide +kernel
theorem d_Mo_join_155 : decode b_Mo_join 155 = .ok (.ireturn, 1) := by decide +kernel
theorem d_Mo_turn_0 : decode b_Mo_turn 0 = .ok (.aload_n 0, 1) := by decide +kernel
theorem d_Mo_turn_1 : decode b_Mo_turn 1 = .ok (.aload_n 0, 1) := by decide +kernel
theorem d_Mo_turn_2 : decode b_Mo_turn 2 = .ok (.getfield 42, 3) := by decide +kernel
theorem d_Mo_turn_5 : decode b_Mo_turn 5 = .ok (.ifCond .ne 7, 3) := by decide +kernel
theorem d_Mo_turn_8 : decode b_Mo_turn 8 = .ok (.iconst 1, 1) := by decide +kernel
theorem d_Mo_turn_9 : decode b_Mo_turn 9 = .ok (.goto 4, 3) := by decide +kernel
theorem d_Mo_turn_12 : decode b_Mo_turn 12 = .ok (.iconst 0, 1) := by decide +kernel
theorem d_Mo_turn_13 : decode b_Mo_turn 13 = .ok (.putfield 29, 3) := by decide +kernel
theorem d_Mo_turn_16 : decode b_Mo_turn 16 = .ok (.iconst 0, 1) := by decide +kernel
theorem d_Mo_turn_17 : decode b_Mo_turn 17 = .ok (.istore_n 1, 1) := by decide +kernel
theorem d_Mo_turn_18 : decode b_Mo_turn 18 = .ok (.iload_n 1, 1) := by decide +kernel
theorem d_Mo_turn_19 : decode b_Mo_turn 19 = .ok (.iconst 4, 1) := by decide +kernel
theorem d_Mo_turn_20 : decode b_Mo_turn 20 = .ok (.if_icmp .ge 50, 3) := by decide +kernel
theorem d_Mo_turn_23 : decode b_Mo_turn 23 = .ok (.aload_n 0, 1) := by decide +kernel
theorem d_Mo_turn_24 : decode b_Mo_turn 24 = .ok (.getfield 42, 3) := by decide +kernel
theorem d_Mo_turn_27 : decode b_Mo_turn 27 = .ok (.ifCond .le 43, 3) := by decide +kernel
theorem d_Mo_turn_30 : decode b_Mo_turn 30 = .ok (.aload_n 0, 1) := by decide +kernel
theorem d_Mo_turn_31 : decode b_Mo_turn 31 = .ok (.getfield 16, 3) := by decide +kernel
theorem d_Mo_turn_34 : decode b_Mo_turn 34 = .ok (.iconst 4, 1) := by decide +kernel
theorem d_Mo_turn_35 : decode b_Mo_turn 35 = .ok (.aload_n 0, 1) := by decide +kernel
theorem d_Mo_turn_36 : decode b_Mo_turn 36 = .ok (.getfield 42, 3) := by decide +kernel
theorem d_Mo_turn_39 : decode b_Mo_turn 39 = .ok (.imul, 1) := by decide +kernel
theorem d_Mo_turn_40 : decode b_Mo_turn 40 = .ok (.iconst 4, 1) := by decide +kernel
theorem d_Mo_turn_41 : decode b_Mo_turn 41 = .ok (.isub, 1) := by decide +kernel
theorem d_Mo_turn_42 : decode b_Mo_turn 42 = .ok (.iload_n 1, 1) := by decide +kernel
theorem d_Mo_turn_43 : decode b_Mo_turn 43 = .ok (.iadd, 1) := by decide +kernel
theorem d_Mo_turn_44 : decode b_Mo_turn 44 = .ok (.aload_n 0, 1) := by decide +kernel
theorem d_Mo_turn_45 : decode b_Mo_turn 45 = .ok (.getfield 16, 3) := by decide +kernel
theorem d_Mo_turn_48 : decode b_Mo_turn 48 = .ok (.iconst 4, 1) := by decide +kernel
theorem d_Mo_turn_49 : decode b_Mo_turn 49 = .ok (.aload_n 0, 1) := by decide +kernel
theorem d_Mo_turn_50 : decode b_Mo_turn 50 = .ok (.getfield 42, 3) := by decide +kernel
theorem d_Mo_turn_53 : decode b_Mo_turn 53 = .ok (.imul, 1) := by decide +kernel
theorem d_Mo_turn_54 : decode b_Mo_turn 54 = .ok (.iconst 4, 1) := by decide +kernel
theorem d_Mo_turn_55 : decode b_Mo_turn 55 = .ok (.isub, 1) := by decide +kernel
theorem d_Mo_turn_56 : decode b_Mo_turn 56 = .ok (.iload_n 1, 1) := by decide +kernel
theorem d_Mo_turn_57 : decode b_Mo_turn 57 = .ok (.iadd, 1) := by decide +kernel
theorem d_Mo_turn_58 : decode b_Mo_turn 58 = .ok (.laload, 1) := by decide +kernel
theorem d_Mo_turn_59 : decode b_Mo_turn 59 = .ok (.ldc2_w 45, 3) := by decide +kernel
theorem d_Mo_turn_62 : decode b_Mo_turn 62 = .ok (.lxor, 1) := by decide +kernel
theorem d_Mo_turn_63 : decode b_Mo_turn 63 = .ok (.lastore, 1) := by decide +kernel
theorem d_Mo_turn_64 : decode b_Mo_turn 64 = .ok (.iinc 1 1, 3) := by decide +kernel
theorem d_Mo_turn_67 : decode b_Mo_turn 67 = .ok (.goto (-49), 3) := by decide +kernel
theorem d_Mo_turn_70 : decode b_Mo_turn 70 = .ok (.return_, 1) := by decide +kernel
theorem d_Mo_copy_0 : decode b_Mo_copy 0 = .ok (.aload_n 0, 1) := by decide +kernel
theorem d_Mo_copy_1 : decode b_Mo_copy 1 = .ok (.iload_n 1, 1) := by decide +kernel
theorem d_Mo_copy_2 : decode b_Mo_copy 2 = .ok (.ifCond .lt 11, 3) := by decide +kernel
theorem d_Mo_copy_5 : decode b_Mo_copy 5 = .ok (.iload_n 1, 1) := by decide +kernel
theorem d_Mo_copy_6 : decode b_Mo_copy 6 = .ok (.aload_n 0, 1) := by decide +kernel
theorem d_Mo_copy_7 : decode b_Mo_copy 7 = .ok (.getfield 42, 3) := by decide +kernel
theorem d_Mo_copy_10 : decode b_Mo_copy 10 = .ok (.if_icmp .lt 7, 3) := by decide +kernel
theorem d_Mo_copy_13 : decode b_Mo_copy 13 = .ok (.iconst 1, 1) := by decide +kernel
theorem d_Mo_copy_14 : decode b_Mo_copy 14 = .ok (.goto 17, 3) := by decide +kernel
theorem d_Mo_copy_17 : decode b_Mo_copy 17 = .ok (.aload_n 0, 1) := by decide +kernel
theorem d_Mo_copy_18 : decode b_Mo_copy 18 = .ok (.getfield 42, 3) := by decide +kernel
theorem d_Mo_copy_21 : decode b_Mo_copy 21 = .ok (.bipush 6, 2) := by decide +kernel
theorem d_Mo_copy_23 : decode b_Mo_copy 23 = .ok (.if_icmp .ne 7, 3) := by decide +kernel
theorem d_Mo_copy_26 : decode b_Mo_copy 26 = .ok (.iconst 2, 1) := by decide +kernel
theorem d_Mo_copy_27 : decode b_Mo_copy 27 = .ok (.goto 4, 3) := by decide +kernel
theorem d_Mo_copy_30 : decode b_Mo_copy 30 = .ok (.iconst 0, 1) := by decide +kernel
theorem d_Mo_copy_31 : decode b_Mo_copy 31 = .ok (.putfield 29, 3) := by decide +kernel
theorem d_Mo_copy_34 : decode b_Mo_copy 34 = .ok (.aload_n 0, 1) := by decide +kernel
theorem d_Mo_copy_35 : decode b_Mo_copy 35 = .ok (.getfield 29, 3) := by decide +kernel
theorem d_Mo_copy_38 : decode b_Mo_copy 38 = .ok (.ifCond .le 5, 3) := by decide +kernel
theorem d_Mo_copy_41 : decode b_Mo_copy 41 = .ok (.iconst 0, 1) := by decide +kernel
theorem d_Mo_copy_42 : decode b_Mo_copy 42 = .ok (.ireturn, 1) := by decide +kernel
theorem d_Mo_copy_43 : decode b_Mo_copy 43 = .ok (.iconst 0, 1) := by decide +kernel
theorem d_Mo_copy_44 : decode b_Mo_copy 44 = .ok (.istore_n 2, 1) := by decide +kernel
theorem d_Mo_copy_45 : decode b_Mo_copy 45 = .ok (.iload_n 2, 1) := by decide +kernel
theorem d_Mo_copy_46 : decode b_Mo_copy 46 = .ok (.iconst 4, 1) := by decide +kernel
theorem d_Mo_copy_47 : decode b_Mo_copy 47 = .ok (.if_icmp .ge 39, 3) := by decide +kernel
theorem d_Mo_copy_50 : decode b_Mo_copy 50 = .ok (.aload_n 0, 1) := by decide +kernel
theorem d_Mo_copy_51 : decode b_Mo_copy 51 = .ok (.getfield 16, 3) := by decide +kernel
theorem d_Mo_copy_54 : decode b_Mo_copy 54 = .ok (.iconst 4, 1) := by decide +kernel
theorem d_Mo_copy_55 : decode b_Mo_copy 55 = .ok (.aload_n 0, 1) := by decide +kernel
theorem d_Mo_copy_56 : decode b_Mo_copy 56 = .ok (.getfield 42, 3) := by decide +kernel
theorem d_Mo_copy_59 : decode b_Mo_copy 59 = .ok (.imul, 1) := by decide +kernel
theorem d_Mo_copy_60 : decode b_Mo_copy 60 = .ok (.iload_n 2, 1) := by decide +kernel
theorem d_Mo_copy_61 : decode b_Mo_copy 61 = .ok (.iadd, 1) := by decide +kernel
theorem d_Mo_copy_62 : decode b_Mo_copy 62 = .ok (.aload_n 0, 1) := by decide +kernel
theorem d_Mo_copy_63 : decode b_Mo_copy 63 = .ok (.getfield 16, 3) := by decide +kernel
theorem d_Mo_copy_66 : decode b_Mo_copy 66 = .ok (.iconst 4, 1) := by decide +kernel
theorem d_Mo_copy_67 : decode b_Mo_copy 67 = .ok (.aload_n 0, 1) := by decide +kernel
theorem d_Mo_copy_68 : decode b_Mo_copy 68 = .ok (.getfield 42, 3) := by decide +kernel
theorem d_Mo_copy_71 : decode b_Mo_copy 71 = .ok (.iconst 1, 1) := by decide +kernel
theorem d_Mo_copy_72 : decode b_Mo_copy 72 = .ok (.isub, 1) := by decide +kernel
theorem d_Mo_copy_73 : decode b_Mo_copy 73 = .ok (.iload_n 1, 1) := by decide +kernel
theorem d_Mo_copy_74 : decode b_Mo_copy 74 = .ok (.isub, 1) := by decide +kernel
theorem d_Mo_copy_75 : decode b_Mo_copy 75 = .ok (.imul, 1) := by decide +kernel
theorem d_Mo_copy_76 : decode b_Mo_copy 76 = .ok (.iload_n 2, 1) := by decide +kernel
theorem d_Mo_copy_77 : decode b_Mo_copy 77 = .ok (.iadd, 1) := by decide +kernel
theorem d_Mo_copy_78 : decode b_Mo_copy 78 = .ok (.laload, 1) := by decide +kernel
theorem d_Mo_copy_79 : decode b_Mo_copy 79 = .ok (.lastore, 1) := by decide +kernel
theorem d_Mo_copy_80 : decode b_Mo_copy 80 = .ok (.iinc 2 1, 3) := by decide +kernel
theorem d_Mo_copy_83 : decode b_Mo_copy 83 = .ok (.goto (-38), 3) := by decide +kernel
theorem d_Mo_copy_86 : decode b_Mo_copy 86 = .ok (.aload_n 0, 1) := by decide +kernel
theorem d_Mo_copy_87 : decode b_Mo_copy 87 = .ok (.dup, 1) := by decide +kernel
theorem d_Mo_copy_88 : decode b_Mo_copy 88 = .ok (.getfield 42, 3) := by decide +kernel
theorem d_Mo_copy_91 : decode b_Mo_copy 91 = .ok (.iconst 1, 1) := by decide +kernel
theorem d_Mo_copy_92 : decode b_Mo_copy 92 = .ok (.iadd, 1) := by decide +kernel
theorem d_Mo_copy_93 : decode b_Mo_copy 93 = .ok (.putfield 42, 3) := by decide +kernel
theorem d_Mo_copy_96 : decode b_Mo_copy 96 = .ok (.aload_n 0, 1) := by decide +kernel
theorem d_Mo_copy_97 : decode b_Mo_copy 97 = .ok (.getfield 42, 3) := by decide +kernel
theorem d_Mo_copy_100 : decode b_Mo_copy 100 = .ok (.ireturn, 1) := by decide +kernel
theorem d_Mo_drop_0 : decode b_Mo_drop 0 = .ok (.aload_n 0, 1) := by decide +kernel
theorem d_Mo_drop_1 : decode b_Mo_drop 1 = .ok (.aload_n 0, 1) := by decide +kernel
theorem d_Mo_drop_2 : decode b_Mo_drop 2 = .ok (.getfield 42, 3) := by decide +kernel
theorem d_Mo_drop_5 : decode b_Mo_drop 5 = .ok (.ifCond .ne 7, 3) := by decide +kernel
theorem d_Mo_drop_8 : decode b_Mo_drop 8 = .ok (.iconst 1, 1) := by decide +kernel
theorem d_Mo_drop_9 : decode b_Mo_drop 9 = .ok (.goto 4, 3) := by decide +kernel
theorem d_Mo_drop_12 : decode b_Mo_drop 12 = .ok (.iconst 0, 1) := by decide +kernel
theorem d_Mo_drop_13 : decode b_Mo_drop 13 = .ok (.putfield 29, 3) := by decide +kernel
theorem d_Mo_drop_16 : decode b_Mo_drop 16 = .ok (.aload_n 0, 1) := by decide +kernel
theorem d_Mo_drop_17 : decode b_Mo_drop 17 = .ok (.aload_n 0, 1) := by decide +kernel
theorem d_Mo_drop_18 : decode b_Mo_drop 18 = .ok (.getfield 42, 3) := by decide +kernel
theorem d_Mo_drop_21 : decode b_Mo_drop 21 = .ok (.ifCond .ne 7, 3) := by decide +kernel
theorem d_Mo_drop_24 : decode b_Mo_drop 24 = .ok (.iconst 0, 1) := by decide +kernel
theorem d_Mo_drop_25 : decode b_Mo_drop 25 = .ok (.goto 9, 3) := by decide +kernel
theorem d_Mo_drop_28 : decode b_Mo_drop 28 = .ok (.aload_n 0, 1) := by decide +kernel
theorem d_Mo_drop_29 : decode b_Mo_drop 29 = .ok (.getfield 42, 3) := by decide +kernel
theorem d_Mo_drop_32 : decode b_Mo_drop 32 = .ok (.iconst 1, 1) := by decide +kernel
theorem d_Mo_drop_33 : decode b_Mo_drop 33 = .ok (.isub, 1) := by decide +kernel
theorem d_Mo_drop_34 : decode b_Mo_drop 34 = .ok (.putfield 42, 3) := by decide +kernel
theorem d_Mo_drop_37 : decode b_Mo_drop 37 = .ok (.aload_n 0, 1) := by decide +kernel
theorem d_Mo_drop_38 : decode b_Mo_drop 38 = .ok (.getfield 42, 3) := by decide +kernel
theorem d_Mo_drop_41 : decode b_Mo_drop 41 = .ok (.ireturn, 1) := by decide +kernel
theorem d_Mo_solids_0 : decode b_Mo_solids 0 = .ok (.aload_n 0, 1) := by decide +kernel
theorem d_Mo_solids_1 : decode b_Mo_solids 1 = .ok (.iconst 0, 1) := by decide +kernel
theorem d_Mo_solids_2 : decode b_Mo_solids 2 = .ok (.putfield 29, 3) := by decide +kernel
theorem d_Mo_solids_5 : decode b_Mo_solids 5 = .ok (.aload_n 0, 1) := by decide +kernel
theorem d_Mo_solids_6 : decode b_Mo_solids 6 = .ok (.getfield 42, 3) := by decide +kernel
theorem d_Mo_solids_9 : decode b_Mo_solids 9 = .ok (.ireturn, 1) := by decide +kernel
theorem d_Mo_topHas_0 : decode b_Mo_topHas 0 = .ok (.aload_n 0, 1) := by decide +kernel
theorem d_Mo_topHas_1 : decode b_Mo_topHas 1 = .ok (.getfield 16, 3) := by decide +kernel
theorem d_Mo_topHas_4 : decode b_Mo_topHas 4 = .ok (.iconst 4, 1) := by decide +kernel
theorem d_Mo_topHas_5 : decode b_Mo_topHas 5 = .ok (.aload_n 0, 1) := by decide +kernel
theorem d_Mo_topHas_6 : decode b_Mo_topHas 6 = .ok (.getfield 42, 3) := by decide +kernel
theorem d_Mo_topHas_9 : decode b_Mo_topHas 9 = .ok (.imul, 1) := by decide +kernel
theorem d_Mo_topHas_10 : decode b_Mo_topHas 10 = .ok (.iconst 4, 1) := by decide +kernel
theorem d_Mo_topHas_11 : decode b_Mo_topHas 11 = .ok (.isub, 1) := by decide +kernel
theorem d_Mo_topHas_12 : decode b_Mo_topHas 12 = .ok (.iload_n 1, 1) := by decide +kernel
theorem d_Mo_topHas_13 : decode b_Mo_topHas 13 = .ok (.bipush 64, 2) := by decide +kernel
theorem d_Mo_topHas_15 : decode b_Mo_topHas 15 = .ok (.idiv, 1) := by decide +kernel
theorem d_Mo_topHas_16 : decode b_Mo_topHas 16 = .ok (.iadd, 1) := by decide +kernel
theorem d_Mo_topHas_17 : decode b_Mo_topHas 17 = .ok (.laload, 1) := by decide +kernel
theorem d_Mo_topHas_18 : decode b_Mo_topHas 18 = .ok (.iload_n 1, 1) := by decide +kernel
theorem d_Mo_topHas_19 : decode b_Mo_topHas 19 = .ok (.bipush 64, 2) := by decide +kernel
theorem d_Mo_topHas_21 : decode b_Mo_topHas 21 = .ok (.irem, 1) := by decide +kernel
theorem d_Mo_topHas_22 : decode b_Mo_topHas 22 = .ok (.lshr, 1) := by decide +kernel
theorem d_Mo_topHas_23 : decode b_Mo_topHas 23 = .ok (.lconst 1, 1) := by decide +kernel
theorem d_Mo_topHas_24 : decode b_Mo_topHas 24 = .ok (.land, 1) := by decide +kernel
theorem d_Mo_topHas_25 : decode b_Mo_topHas 25 = .ok (.lconst 1, 1) := by decide +kernel
theorem d_Mo_topHas_26 : decode b_Mo_topHas 26 = .ok (.lcmp, 1) := by decide +kernel
theorem d_Mo_topHas_27 : decode b_Mo_topHas 27 = .ok (.ifCond .ne 7, 3) := by decide +kernel
theorem d_Mo_topHas_30 : decode b_Mo_topHas 30 = .ok (.iconst 1, 1) := by decide +kernel
theorem d_Mo_topHas_31 : decode b_Mo_topHas 31 = .ok (.goto 4, 3) := by decide +kernel
theorem d_Mo_topHas_34 : decode b_Mo_topHas 34 = .ok (.iconst 0, 1) := by decide +kernel
theorem d_Mo_topHas_35 : decode b_Mo_topHas 35 = .ok (.ireturn, 1) := by decide +kernel
theorem d_Mo_isPoint_0 : decode b_Mo_isPoint 0 = .ok (.iload_n 0, 1) := by decide +kernel
theorem d_Mo_isPoint_1 : decode b_Mo_isPoint 1 = .ok (.ldc 33, 2) := by decide +kernel
theorem d_Mo_isPoint_3 : decode b_Mo_isPoint 3 = .ok (.invokestatic 34, 3) := by decide +kernel
theorem d_Mo_isPoint_6 : decode b_Mo_isPoint 6 = .ok (.ifCond .eq 37, 3) := by decide +kernel
theorem d_Mo_isPoint_9 : decode b_Mo_isPoint 9 = .ok (.iload_n 1, 1) := by decide +kernel
theorem d_Mo_isPoint_10 : decode b_Mo_isPoint 10 = .ok (.ldc 33, 2) := by decide +kernel
theorem d_Mo_isPoint_12 : decode b_Mo_isPoint 12 = .ok (.invokestatic 34, 3) := by decide +kernel
theorem d_Mo_isPoint_15 : decode b_Mo_isPoint 15 = .ok (.ifCond .eq 28, 3) := by decide +kernel
theorem d_Mo_isPoint_18 : decode b_Mo_isPoint 18 = .ok (.iload_n 2, 1) := by decide +kernel
theorem d_Mo_isPoint_19 : decode b_Mo_isPoint 19 = .ok (.ldc 33, 2) := by decide +kernel
theorem d_Mo_isPoint_21 : decode b_Mo_isPoint 21 = .ok (.invokestatic 34, 3) := by decide +kernel
theorem d_Mo_isPoint_24 : decode b_Mo_isPoint 24 = .ok (.ifCond .eq 19, 3) := by decide +kernel
theorem d_Mo_isPoint_27 : decode b_Mo_isPoint 27 = .ok (.iload_n 3, 1) := by decide +kernel
theorem d_Mo_isPoint_28 : decode b_Mo_isPoint 28 = .ok (.iconst 1, 1) := by decide +kernel
theorem d_Mo_isPoint_29 : decode b_Mo_isPoint 29 = .ok (.if_icmp .lt 14, 3) := by decide +kernel
theorem d_Mo_isPoint_32 : decode b_Mo_isPoint 32 = .ok (.iload_n 3, 1) := by decide +kernel
theorem d_Mo_isPoint_33 : decode b_Mo_isPoint 33 = .ok (.sipush 1000, 3) := by decide +kernel
theorem d_Mo_isPoint_36 : decode b_Mo_isPoint 36 = .ok (.if_icmp .gt 7, 3) := by decide +kernel
theorem d_Mo_isPoint_39 : decode b_Mo_isPoint 39 = .ok (.iconst 1, 1) := by decide +kernel
theorem d_Mo_isPoint_40 : decode b_Mo_isPoint 40 = .ok (.goto 4, 3) := by decide +kernel
theorem d_Mo_isPoint_43 : decode b_Mo_isPoint 43 = .ok (.iconst 0, 1) := by decide +kernel
theorem d_Mo_isPoint_44 : decode b_Mo_isPoint 44 = .ok (.ireturn, 1) := by decide +kernel
theorem d_Mo_look_0 : decode b_Mo_look 0 = .ok (.iconst 0, 1) := by decide +kernel
theorem d_Mo_look_1 : decode b_Mo_look 1 = .ok (.istore 5, 2) := by decide +kernel
theorem d_Mo_look_3 : decode b_Mo_look 3 = .ok (.iload 5, 2) := by decide +kernel
theorem d_Mo_look_5 : decode b_Mo_look 5 = .ok (.aload_n 0, 1) := by decide +kernel
theorem d_Mo_look_6 : decode b_Mo_look 6 = .ok (.getfield 39, 3) := by decide +kernel
theorem d_Mo_look_9 : decode b_Mo_look 9 = .ok (.if_icmp .ge 74, 3) := by decide +kernel
theorem d_Mo_look_12 : decode b_Mo_look 12 = .ok (.aload_n 0, 1) := by decide +kernel
theorem d_Mo_look_13 : decode b_Mo_look 13 = .ok (.getfield 20, 3) := by decide +kernel
theorem d_Mo_look_16 : decode b_Mo_look 16 = .ok (.iload 5, 2) := by decide +kernel
theorem d_Mo_look_18 : decode b_Mo_look 18 = .ok (.aload_n 0, 1) := by decide +kernel
theorem d_Mo_look_19 : decode b_Mo_look 19 = .ok (.getfield 7, 3) := by decide +kernel
theorem d_Mo_look_22 : decode b_Mo_look 22 = .ok (.iconst 3, 1) := by decide +kernel
theorem d_Mo_look_23 : decode b_Mo_look 23 = .ok (.iload 5, 2) := by decide +kernel
theorem d_Mo_look_25 : decode b_Mo_look 25 = .ok (.imul, 1) := by decide +kernel
theorem d_Mo_look_26 : decode b_Mo_look 26 = .ok (.iaload, 1) := by decide +kernel
theorem d_Mo_look_27 : decode b_Mo_look 27 = .ok (.i2l, 1) := by decide +kernel
theorem d_Mo_look_28 : decode b_Mo_look 28 = .ok (.iload_n 1, 1) := by decide +kernel
theorem d_Mo_look_29 : decode b_Mo_look 29 = .ok (.i2l, 1) := by decide +kernel
theorem d_Mo_look_30 : decode b_Mo_look 30 = .ok (.lmul, 1) := by decide +kernel
theorem d_Mo_look_31 : decode b_Mo_look 31 = .ok (.aload_n 0, 1) := by decide +kernel
theorem d_Mo_look_32 : decode b_Mo_look 32 = .ok (.getfield 7, 3) := by decide +kernel
theorem d_Mo_look_35 : decode b_Mo_look 35 = .ok (.iconst 3, 1) := by decide +kernel
theorem d_Mo_look_36 : decode b_Mo_look 36 = .ok (.iload 5, 2) := by decide +kernel
theorem d_Mo_look_38 : decode b_Mo_look 38 = .ok (.imul, 1) := by decide +kernel
theorem d_Mo_look_39 : decode b_Mo_look 39 = .ok (.iconst 1, 1) := by decide +kernel
theorem d_Mo_look_40 : decode b_Mo_look 40 = .ok (.iadd, 1) := by decide +kernel
theorem d_Mo_look_41 : decode b_Mo_look 41 = .ok (.iaload, 1) := by decide +kernel
theorem d_Mo_look_42 : decode b_Mo_look 42 = .ok (.i2l, 1) := by decide +kernel
theorem d_Mo_look_43 : decode b_Mo_look 43 = .ok (.iload_n 2, 1) := by decide +kernel
theorem d_Mo_look_44 : decode b_Mo_look 44 = .ok (.i2l, 1) := by decide +kernel
theorem d_Mo_look_45 : decode b_Mo_look 45 = .ok (.lmul, 1) := by decide +kernel
theorem d_Mo_look_46 : decode b_Mo_look 46 = .ok (.ladd, 1) := by decide +kernel
theorem d_Mo_look_47 : decode b_Mo_look 47 = .ok (.aload_n 0, 1) := by decide +kernel
theorem d_Mo_look_48 : decode b_Mo_look 48 = .ok (.getfield 7, 3) := by decide +kernel
theorem d_Mo_look_51 : decode b_Mo_look 51 = .ok (.iconst 3, 1) := by decide +kernel
theorem d_Mo_look_52 : decode b_Mo_look 52 = .ok (.iload 5, 2) := by decide +kernel
theorem d_Mo_look_54 : decode b_Mo_look 54 = .ok (.imul, 1) := by decide +kernel
theorem d_Mo_look_55 : decode b_Mo_look 55 = .ok (.iconst 2, 1) := by decide +kernel
theorem d_Mo_look_56 : decode b_Mo_look 56 = .ok (.iadd, 1) := by decide +kernel
theorem d_Mo_look_57 : decode b_Mo_look 57 = .ok (.iaload, 1) := by decide +kernel
theorem d_Mo_look_58 : decode b_Mo_look 58 = .ok (.i2l, 1) := by decide +kernel
theorem d_Mo_look_59 : decode b_Mo_look 59 = .ok (.iload_n 3, 1) := by decide +kernel
theorem d_Mo_look_60 : decode b_Mo_look 60 = .ok (.i2l, 1) := by decide +kernel
theorem d_Mo_look_61 : decode b_Mo_look 61 = .ok (.lmul, 1) := by decide +kernel
theorem d_Mo_look_62 : decode b_Mo_look 62 = .ok (.ladd, 1) := by decide +kernel
theorem d_Mo_look_63 : decode b_Mo_look 63 = .ok (.aload_n 0, 1) := by decide +kernel
theorem d_Mo_look_64 : decode b_Mo_look 64 = .ok (.getfield 13, 3) := by decide +kernel
theorem d_Mo_look_67 : decode b_Mo_look 67 = .ok (.iload 5, 2) := by decide +kernel
theorem d_Mo_look_69 : decode b_Mo_look 69 = .ok (.iaload, 1) := by decide +kernel
theorem d_Mo_look_70 : decode b_Mo_look 70 = .ok (.i2l, 1) := by decide +kernel
theorem d_Mo_look_71 : decode b_Mo_look 71 = .ok (.iload 4, 2) := by decide +kernel
theorem d_Mo_look_73 : decode b_Mo_look 73 = .ok (.i2l, 1) := by decide +kernel
theorem d_Mo_look_74 : decode b_Mo_look 74 = .ok (.lmul, 1) := by decide +kernel
theorem d_Mo_look_75 : decode b_Mo_look 75 = .ok (.lsub, 1) := by decide +kernel
theorem d_Mo_look_76 : decode b_Mo_look 76 = .ok (.lastore, 1) := by decide +kernel
theorem d_Mo_look_77 : decode b_Mo_look 77 = .ok (.iinc 5 1, 3) := by decide +kernel
theorem d_Mo_look_80 : decode b_Mo_look 80 = .ok (.goto (-77), 3) := by decide +kernel
theorem d_Mo_look_83 : decode b_Mo_look 83 = .ok (.return_, 1) := by decide +kernel
theorem d_Mo_lies_0 : decode b_Mo_lies 0 = .ok (.iload_n 0, 1) := by decide +kernel
theorem d_Mo_lies_1 : decode b_Mo_lies 1 = .ok (.ifCond .ge 8, 3) := by decide +kernel
theorem d_Mo_lies_4 : decode b_Mo_lies 4 = .ok (.iload_n 0, 1) := by decide +kernel
theorem d_Mo_lies_5 : decode b_Mo_lies 5 = .ok (.ineg, 1) := by decide +kernel
theorem d_Mo_lies_6 : decode b_Mo_lies 6 = .ok (.goto 4, 3) := by decide +kernel
theorem d_Mo_lies_9 : decode b_Mo_lies 9 = .ok (.iload_n 0, 1) := by decide +kernel
theorem d_Mo_lies_10 : decode b_Mo_lies 10 = .ok (.istore_n 2, 1) := by decide +kernel
theorem d_Mo_lies_11 : decode b_Mo_lies 11 = .ok (.iload_n 2, 1) := by decide +kernel
theorem d_Mo_lies_12 : decode b_Mo_lies 12 = .ok (.sipush 1000, 3) := by decide +kernel
theorem d_Mo_lies_15 : decode b_Mo_lies 15 = .ok (.iload_n 1, 1) := by decide +kernel
theorem d_Mo_lies_16 : decode b_Mo_lies 16 = .ok (.imul, 1) := by decide +kernel
theorem d_Mo_lies_17 : decode b_Mo_lies 17 = .ok (.if_icmp .ge 7, 3) := by decide +kernel
theorem d_Mo_lies_20 : decode b_Mo_lies 20 = .ok (.iconst 1, 1) := by decide +kernel
theorem d_Mo_lies_21 : decode b_Mo_lies 21 = .ok (.goto 17, 3) := by decide +kernel
theorem d_Mo_lies_24 : decode b_Mo_lies 24 = .ok (.iload_n 2, 1) := by decide +kernel
theorem d_Mo_lies_25 : decode b_Mo_lies 25 = .ok (.sipush 1000, 3) := by decide +kernel
theorem d_Mo_lies_28 : decode b_Mo_lies 28 = .ok (.iload_n 1, 1) := by decide +kernel
theorem d_Mo_lies_29 : decode b_Mo_lies 29 = .ok (.imul, 1) := by decide +kernel
theorem d_Mo_lies_30 : decode b_Mo_lies 30 = .ok (.if_icmp .ne 7, 3) := by decide +kernel
theorem d_Mo_lies_33 : decode b_Mo_lies 33 = .ok (.iconst 0, 1) := by decide +kernel
theorem d_Mo_lies_34 : decode b_Mo_lies 34 = .ok (.goto 4, 3) := by decide +kernel
theorem d_Mo_lies_37 : decode b_Mo_lies 37 = .ok (.iconst (-1), 1) := by decide +kernel
theorem d_Mo_lies_38 : decode b_Mo_lies 38 = .ok (.ireturn, 1) := by decide +kernel
theorem d_Mo_choice_0 : decode b_Mo_choice 0 = .ok (.iconst 0, 1) := by decide +kernel
theorem d_Mo_choice_1 : decode b_Mo_choice 1 = .ok (.istore_n 1, 1) := by decide +kernel
theorem d_Mo_choice_2 : decode b_Mo_choice 2 = .ok (.iconst 0, 1) := by decide +kernel
theorem d_Mo_choice_3 : decode b_Mo_choice 3 = .ok (.istore_n 2, 1) := by decide +kernel
theorem d_Mo_choice_4 : decode b_Mo_choice 4 = .ok (.iload_n 2, 1) := by decide +kernel
theorem d_Mo_choice_5 : decode b_Mo_choice 5 = .ok (.aload_n 0, 1) := by decide +kernel
theorem d_Mo_choice_6 : decode b_Mo_choice 6 = .ok (.getfield 39, 3) := by decide +kernel
theorem d_Mo_choice_9 : decode b_Mo_choice 9 = .ok (.if_icmp .ge 30, 3) := by decide +kernel
theorem d_Mo_choice_12 : decode b_Mo_choice 12 = .ok (.iload_n 1, 1) := by decide +kernel
theorem d_Mo_choice_13 : decode b_Mo_choice 13 = .ok (.aload_n 0, 1) := by decide +kernel
theorem d_Mo_choice_14 : decode b_Mo_choice 14 = .ok (.getfield 20, 3) := by decide +kernel
theorem d_Mo_choice_17 : decode b_Mo_choice 17 = .ok (.iload_n 2, 1) := by decide +kernel
theorem d_Mo_choice_18 : decode b_Mo_choice 18 = .ok (.laload, 1) := by decide +kernel
theorem d_Mo_choice_19 : decode b_Mo_choice 19 = .ok (.lconst 0, 1) := by decide +kernel
theorem d_Mo_choice_20 : decode b_Mo_choice 20 = .ok (.lcmp, 1) := by decide +kernel
theorem d_Mo_choice_21 : decode b_Mo_choice 21 = .ok (.ifCond .ge 9, 3) := by decide +kernel
theorem d_Mo_choice_24 : decode b_Mo_choice 24 = .ok (.iconst 1, 1) := by decide +kernel
theorem d_Mo_choice_25 : decode b_Mo_choice 25 = .ok (.iload_n 2, 1) := by decide +kernel
theorem d_Mo_choice_26 : decode b_Mo_choice 26 = .ok (.ishl, 1) := by decide +kernel
theorem d_Mo_choice_27 : decode b_Mo_choice 27 = .ok (.goto 4, 3) := by decide +kernel
theorem d_Mo_choice_30 : decode b_Mo_choice 30 = .ok (.iconst 0, 1) := by decide +kernel
theorem d_Mo_choice_31 : decode b_Mo_choice 31 = .ok (.iadd, 1) := by decide +kernel
theorem d_Mo_choice_32 : decode b_Mo_choice 32 = .ok (.istore_n 1, 1) := by decide +kernel
theorem d_Mo_choice_33 : decode b_Mo_choice 33 = .ok (.iinc 2 1, 3) := by decide +kernel
theorem d_Mo_choice_36 : decode b_Mo_choice 36 = .ok (.goto (-32), 3) := by decide +kernel
theorem d_Mo_choice_39 : decode b_Mo_choice 39 = .ok (.iload_n 1, 1) := by decide +kernel
theorem d_Mo_choice_40 : decode b_Mo_choice 40 = .ok (.ireturn, 1) := by decide +kernel
theorem d_Mo_isOnGiven_0 : decode b_Mo_isOnGiven 0 = .ok (.iconst 0, 1) := by decide +kernel
theorem d_Mo_isOnGiven_1 : decode b_Mo_isOnGiven 1 = .ok (.istore_n 1, 1) := by decide +kernel
theorem d_Mo_isOnGiven_2 : decode b_Mo_isOnGiven 2 = .ok (.iconst 0, 1) := by decide +kernel
theorem d_Mo_isOnGiven_3 : decode b_Mo_isOnGiven 3 = .ok (.istore_n 2, 1) := by decide +kernel
theorem d_Mo_isOnGiven_4 : decode b_Mo_isOnGiven 4 = .ok (.iload_n 2, 1) := by decide +kernel
theorem d_Mo_isOnGiven_5 : decode b_Mo_isOnGiven 5 = .ok (.aload_n 0, 1) := by decide +kernel
theorem d_Mo_isOnGiven_6 : decode b_Mo_isOnGiven 6 = .ok (.getfield 39, 3) := by decide +kernel
theorem d_Mo_isOnGiven_9 : decode b_Mo_isOnGiven 9 = .ok (.if_icmp .ge 30, 3) := by decide +kernel
theorem d_Mo_isOnGiven_12 : decode b_Mo_isOnGiven 12 = .ok (.iload_n 1, 1) := by decide +kernel
theorem d_Mo_isOnGiven_13 : decode b_Mo_isOnGiven 13 = .ok (.ifCond .ne 14, 3) := by decide +kernel
theorem d_Mo_isOnGiven_16 : decode b_Mo_isOnGiven 16 = .ok (.aload_n 0, 1) := by decide +kernel
theorem d_Mo_isOnGiven_17 : decode b_Mo_isOnGiven 17 = .ok (.getfield 20, 3) := by decide +kernel
theorem d_Mo_isOnGiven_20 : decode b_Mo_isOnGiven 20 = .ok (.iload_n 2, 1) := by decide +kernel
theorem d_Mo_isOnGiven_21 : decode b_Mo_isOnGiven 21 = .ok (.laload, 1) := by decide +kernel
theorem d_Mo_isOnGiven_22 : decode b_Mo_isOnGiven 22 = .ok (.lconst 0, 1) := by decide +kernel
theorem d_Mo_isOnGiven_23 : decode b_Mo_isOnGiven 23 = .ok (.lcmp, 1) := by decide +kernel
theorem d_Mo_isOnGiven_24 : decode b_Mo_isOnGiven 24 = .ok (.ifCond .ne 7, 3) := by decide +kernel
theorem d_Mo_isOnGiven_27 : decode b_Mo_isOnGiven 27 = .ok (.iconst 1, 1) := by decide +kernel
theorem d_Mo_isOnGiven_28 : decode b_Mo_isOnGiven 28 = .ok (.goto 4, 3) := by decide +kernel
theorem d_Mo_isOnGiven_31 : decode b_Mo_isOnGiven 31 = .ok (.iconst 0, 1) := by decide +kernel
theorem d_Mo_isOnGiven_32 : decode b_Mo_isOnGiven 32 = .ok (.istore_n 1, 1) := by decide +kernel
theorem d_Mo_isOnGiven_33 : decode b_Mo_isOnGiven 33 = .ok (.iinc 2 1, 3) := by decide +kernel
theorem d_Mo_isOnGiven_36 : decode b_Mo_isOnGiven 36 = .ok (.goto (-32), 3) := by decide +kernel
theorem d_Mo_isOnGiven_39 : decode b_Mo_isOnGiven 39 = .ok (.iload_n 1, 1) := by decide +kernel
theorem d_Mo_isOnGiven_40 : decode b_Mo_isOnGiven 40 = .ok (.ireturn, 1) := by decide +kernel
theorem d_Mo_inside_0 : decode b_Mo_inside 0 = .ok (.aload_n 0, 1) := by decide +kernel
theorem d_Mo_inside_1 : decode b_Mo_inside 1 = .ok (.iload_n 1, 1) := by decide +kernel
theorem d_Mo_inside_2 : decode b_Mo_inside 2 = .ok (.iload_n 2, 1) := by decide +kernel
theorem d_Mo_inside_3 : decode b_Mo_inside 3 = .ok (.iload_n 3, 1) := by decide +kernel
theorem d_Mo_inside_4 : decode b_Mo_inside 4 = .ok (.iload 4, 2) := by decide +kernel
theorem d_Mo_inside_6 : decode b_Mo_inside 6 = .ok (.invokestatic 47, 3) := by decide +kernel
theorem d_Mo_inside_9 : decode b_Mo_inside 9 = .ok (.ifCond .ne 7, 3) := by decide +kernel
theorem d_Mo_inside_12 : decode b_Mo_inside 12 = .ok (.iconst 1, 1) := by decide +kernel
theorem d_Mo_inside_13 : decode b_Mo_inside 13 = .ok (.goto 15, 3) := by decide +kernel
theorem d_Mo_inside_16 : decode b_Mo_inside 16 = .ok (.aload_n 0, 1) := by decide +kernel
theorem d_Mo_inside_17 : decode b_Mo_inside 17 = .ok (.getfield 42, 3) := by decide +kernel
theorem d_Mo_inside_20 : decode b_Mo_inside 20 = .ok (.ifCond .ne 7, 3) := by decide +kernel
theorem d_Mo_inside_23 : decode b_Mo_inside 23 = .ok (.iconst 2, 1) := by decide +kernel
theorem d_Mo_inside_24 : decode b_Mo_inside 24 = .ok (.goto 4, 3) := by decide +kernel
theorem d_Mo_inside_27 : decode b_Mo_inside 27 = .ok (.iconst 0, 1) := by decide +kernel
theorem d_Mo_inside_28 : decode b_Mo_inside 28 = .ok (.putfield 29, 3) := by decide +kernel
theorem d_Mo_inside_31 : decode b_Mo_inside 31 = .ok (.aload_n 0, 1) := by decide +kernel
theorem d_Mo_inside_32 : decode b_Mo_inside 32 = .ok (.getfield 29, 3) := by decide +kernel
theorem d_Mo_inside_35 : decode b_Mo_inside 35 = .ok (.ifCond .le 5, 3) := by decide +kernel
theorem d_Mo_inside_38 : decode b_Mo_inside 38 = .ok (.iconst 0, 1) := by decide +kernel
theorem d_Mo_inside_39 : decode b_Mo_inside 39 = .ok (.ireturn, 1) := by decide +kernel
theorem d_Mo_inside_40 : decode b_Mo_inside 40 = .ok (.aload_n 0, 1) := by decide +kernel
theorem d_Mo_inside_41 : decode b_Mo_inside 41 = .ok (.iload_n 1, 1) := by decide +kernel
theorem d_Mo_inside_42 : decode b_Mo_inside 42 = .ok (.iload_n 2, 1) := by decide +kernel
theorem d_Mo_inside_43 : decode b_Mo_inside 43 = .ok (.iload_n 3, 1) := by decide +kernel
theorem d_Mo_inside_44 : decode b_Mo_inside 44 = .ok (.iload 4, 2) := by decide +kernel
theorem d_Mo_inside_46 : decode b_Mo_inside 46 = .ok (.invokevirtual 51, 3) := by decide +kernel
theorem d_Mo_inside_49 : decode b_Mo_inside 49 = .ok (.aload_n 0, 1) := by decide +kernel
theorem d_Mo_inside_50 : decode b_Mo_inside 50 = .ok (.invokevirtual 55, 3) := by decide +kernel
theorem d_Mo_inside_53 : decode b_Mo_inside 53 = .ok (.ifCond .ne 30, 3) := by decide +kernel
theorem d_Mo_inside_56 : decode b_Mo_inside 56 = .ok (.iload_n 1, 1) := by decide +kernel
theorem d_Mo_inside_57 : decode b_Mo_inside 57 = .ok (.iload 4, 2) := by decide +kernel
theorem d_Mo_inside_59 : decode b_Mo_inside 59 = .ok (.invokestatic 59, 3) := by decide +kernel
theorem d_Mo_inside_62 : decode b_Mo_inside 62 = .ok (.ifCond .eq 21, 3) := by decide +kernel
theorem d_Mo_inside_65 : decode b_Mo_inside 65 = .ok (.iload_n 2, 1) := by decide +kernel
theorem d_Mo_inside_66 : decode b_Mo_inside 66 = .ok (.iload 4, 2) := by decide +kernel
theorem d_Mo_inside_68 : decode b_Mo_inside 68 = .ok (.invokestatic 59, 3) := by decide +kernel
theorem d_Mo_inside_71 : decode b_Mo_inside 71 = .ok (.ifCond .eq 12, 3) := by decide +kernel
theorem d_Mo_inside_74 : decode b_Mo_inside 74 = .ok (.iload_n 3, 1) := by decide +kernel
theorem d_Mo_inside_75 : decode b_Mo_inside 75 = .ok (.iload 4, 2) := by decide +kernel
theorem d_Mo_inside_77 : decode b_Mo_inside 77 = .ok (.invokestatic 59, 3) := by decide +kernel
theorem d_Mo_inside_80 : decode b_Mo_inside 80 = .ok (.ifCond .ne 5, 3) := by decide +kernel
theorem d_Mo_inside_83 : decode b_Mo_inside 83 = .ok (.iconst 2, 1) := by decide +kernel
theorem d_Mo_inside_84 : decode b_Mo_inside 84 = .ok (.ireturn, 1) := by decide +kernel
theorem d_Mo_inside_85 : decode b_Mo_inside 85 = .ok (.iload_n 1, 1) := by decide +kernel
theorem d_Mo_inside_86 : decode b_Mo_inside 86 = .ok (.iload 4, 2) := by decide +kernel
theorem d_Mo_inside_88 : decode b_Mo_inside 88 = .ok (.invokestatic 59, 3) := by decide +kernel
theorem d_Mo_inside_91 : decode b_Mo_inside 91 = .ok (.ifCond .le 25, 3) := by decide +kernel
theorem d_Mo_inside_94 : decode b_Mo_inside 94 = .ok (.iload_n 2, 1) := by decide +kernel
theorem d_Mo_inside_95 : decode b_Mo_inside 95 = .ok (.iload 4, 2) := by decide +kernel
theorem d_Mo_inside_97 : decode b_Mo_inside 97 = .ok (.invokestatic 59, 3) := by decide +kernel
theorem d_Mo_inside_100 : decode b_Mo_inside 100 = .ok (.ifCond .le 16, 3) := by decide +kernel
theorem d_Mo_inside_103 : decode b_Mo_inside 103 = .ok (.iload_n 3, 1) := by decide +kernel
theorem d_Mo_inside_104 : decode b_Mo_inside 104 = .ok (.iload 4, 2) := by decide +kernel
theorem d_Mo_inside_106 : decode b_Mo_inside 106 = .ok (.invokestatic 59, 3) := by decide +kernel
theorem d_Mo_inside_109 : decode b_Mo_inside 109 = .ok (.ifCond .le 7, 3) := by decide +kernel
theorem d_Mo_inside_112 : decode b_Mo_inside 112 = .ok (.iconst 1, 1) := by decide +kernel
theorem d_Mo_inside_113 : decode b_Mo_inside 113 = .ok (.goto 4, 3) := by decide +kernel
theorem d_Mo_inside_116 : decode b_Mo_inside 116 = .ok (.iconst 0, 1) := by decide +kernel
theorem d_Mo_inside_117 : decode b_Mo_inside 117 = .ok (.istore 5, 2) := by decide +kernel
theorem d_Mo_inside_119 : decode b_Mo_inside 119 = .ok (.iload 5, 2) := by decide +kernel
theorem d_Mo_inside_121 : decode b_Mo_inside 121 = .ok (.ifCond .eq 18, 3) := by decide +kernel
theorem d_Mo_inside_124 : decode b_Mo_inside 124 = .ok (.aload_n 0, 1) := by decide +kernel
theorem d_Mo_inside_125 : decode b_Mo_inside 125 = .ok (.aload_n 0, 1) := by decide +kernel
theorem d_Mo_inside_126 : decode b_Mo_inside 126 = .ok (.invokevirtual 63, 3) := by decide +kernel
theorem d_Mo_inside_129 : decode b_Mo_inside 129 = .ok (.invokevirtual 67, 3) := by decide +kernel
theorem d_Mo_inside_132 : decode b_Mo_inside 132 = .ok (.ifCond .eq 7, 3) := by decide +kernel
theorem d_Mo_inside_135 : decode b_Mo_inside 135 = .ok (.iconst 1, 1) := by decide +kernel
theorem d_Mo_inside_136 : decode b_Mo_inside 136 = .ok (.goto 4, 3) := by decide +kernel
theorem d_Mo_inside_139 : decode b_Mo_inside 139 = .ok (.iconst 0, 1) := by decide +kernel
theorem d_Mo_inside_140 : decode b_Mo_inside 140 = .ok (.ireturn, 1) := by decide +kernel
theorem d_Mo_normal_0 : decode b_Mo_normal 0 = .ok (.iload_n 1, 1) := by decide +kernel
theorem d_Mo_normal_1 : decode b_Mo_normal 1 = .ok (.bipush 10, 2) := by decide +kernel
theorem d_Mo_normal_3 : decode b_Mo_normal 3 = .ok (.if_icmp .ge 14, 3) := by decide +kernel
theorem d_Mo_normal_6 : decode b_Mo_normal 6 = .ok (.aload_n 0, 1) := by decide +kernel
theorem d_Mo_normal_7 : decode b_Mo_normal 7 = .ok (.getfield 7, 3) := by decide +kernel
theorem d_Mo_normal_10 : decode b_Mo_normal 10 = .ok (.iconst 3, 1) := by decide +kernel
theorem d_Mo_normal_11 : decode b_Mo_normal 11 = .ok (.iload_n 1, 1) := by decide +kernel
theorem d_Mo_normal_12 : decode b_Mo_normal 12 = .ok (.imul, 1) := by decide +kernel
theorem d_Mo_normal_13 : decode b_Mo_normal 13 = .ok (.iload_n 2, 1) := by decide +kernel
theorem d_Mo_normal_14 : decode b_Mo_normal 14 = .ok (.iadd, 1) := by decide +kernel
theorem d_Mo_normal_15 : decode b_Mo_normal 15 = .ok (.iaload, 1) := by decide +kernel
theorem d_Mo_normal_16 : decode b_Mo_normal 16 = .ok (.ireturn, 1) := by decide +kernel
theorem d_Mo_normal_17 : decode b_Mo_normal 17 = .ok (.iload_n 1, 1) := by decide +kernel
theorem d_Mo_normal_18 : decode b_Mo_normal 18 = .ok (.bipush 10, 2) := by decide +kernel
theorem d_Mo_normal_20 : decode b_Mo_normal 20 = .ok (.isub, 1) := by decide +kernel
theorem d_Mo_normal_21 : decode b_Mo_normal 21 = .ok (.iconst 3, 1) := by decide +kernel
theorem d_Mo_normal_22 : decode b_Mo_normal 22 = .ok (.irem, 1) := by decide +kernel
theorem d_Mo_normal_23 : decode b_Mo_normal 23 = .ok (.iload_n 2, 1) := by decide +kernel
theorem d_Mo_normal_24 : decode b_Mo_normal 24 = .ok (.if_icmp .eq 7, 3) := by decide +kernel
theorem d_Mo_normal_27 : decode b_Mo_normal 27 = .ok (.iconst 0, 1) := by decide +kernel
theorem d_Mo_normal_28 : decode b_Mo_normal 28 = .ok (.goto 14, 3) := by decide +kernel
theorem d_Mo_normal_31 : decode b_Mo_normal 31 = .ok (.iload_n 1, 1) := by decide +kernel
theorem d_Mo_normal_32 : decode b_Mo_normal 32 = .ok (.bipush 13, 2) := by decide +kernel
theorem d_Mo_normal_34 : decode b_Mo_normal 34 = .ok (.if_icmp .ge 7, 3) := by decide +kernel
theorem d_Mo_normal_37 : decode b_Mo_normal 37 = .ok (.iconst 1, 1) := by decide +kernel
theorem d_Mo_normal_38 : decode b_Mo_normal 38 = .ok (.goto 4, 3) := by decide +kernel
theorem d_Mo_normal_41 : decode b_Mo_normal 41 = .ok (.iconst (-1), 1) := by decide +kernel
theorem d_Mo_normal_42 : decode b_Mo_normal 42 = .ok (.ireturn, 1) := by decide +kernel
theorem d_Mo_alike_0 : decode b_Mo_alike 0 = .ok (.iconst 1, 1) := by decide +kernel
theorem d_Mo_alike_1 : decode b_Mo_alike 1 = .ok (.istore_n 3, 1) := by decide +kernel
theorem d_Mo_alike_2 : decode b_Mo_alike 2 = .ok (.iconst 0, 1) := by decide +kernel
theorem d_Mo_alike_3 : decode b_Mo_alike 3 = .ok (.istore 4, 2) := by decide +kernel
theorem d_Mo_alike_5 : decode b_Mo_alike 5 = .ok (.iconst 0, 1) := by decide +kernel
theorem d_Mo_alike_6 : decode b_Mo_alike 6 = .ok (.istore 5, 2) := by decide +kernel
theorem d_Mo_alike_8 : decode b_Mo_alike 8 = .ok (.iload 5, 2) := by decide +kernel
theorem d_Mo_alike_10 : decode b_Mo_alike 10 = .ok (.iconst 3, 1) := by decide +kernel
theorem d_Mo_alike_11 : decode b_Mo_alike 11 = .ok (.if_icmp .ge 118, 3) := by decide +kernel
theorem d_Mo_alike_14 : decode b_Mo_alike 14 = .ok (.iload 5, 2) := by decide +kernel
theorem d_Mo_alike_16 : decode b_Mo_alike 16 = .ok (.iconst 2, 1) := by decide +kernel
theorem d_Mo_alike_17 : decode b_Mo_alike 17 = .ok (.if_icmp .ne 7, 3) := by decide +kernel
theorem d_Mo_alike_20 : decode b_Mo_alike 20 = .ok (.iconst 0, 1) := by decide +kernel
theorem d_Mo_alike_21 : decode b_Mo_alike 21 = .ok (.goto 7, 3) := by decide +kernel
theorem d_Mo_alike_24 : decode b_Mo_alike 24 = .ok (.iload 5, 2) := by decide +kernel
theorem d_Mo_alike_26 : decode b_Mo_alike 26 = .ok (.iconst 1, 1) := by decide +kernel
theorem d_Mo_alike_27 : decode b_Mo_alike 27 = .ok (.iadd, 1) := by decide +kernel
theorem d_Mo_alike_28 : decode b_Mo_alike 28 = .ok (.istore 6, 2) := by decide +kernel
theorem d_Mo_alike_30 : decode b_Mo_alike 30 = .ok (.iload_n 3, 1) := by decide +kernel
theorem d_Mo_alike_31 : decode b_Mo_alike 31 = .ok (.ifCond .eq 45, 3) := by decide +kernel
theorem d_Mo_alike_34 : decode b_Mo_alike 34 = .ok (.aload_n 0, 1) := by decide +kernel
theorem d_Mo_alike_35 : decode b_Mo_alike 35 = .ok (.iload_n 1, 1) := by decide +kernel
theorem d_Mo_alike_36 : decode b_Mo_alike 36 = .ok (.iload 5, 2) := by decide +kernel
theorem d_Mo_alike_38 : decode b_Mo_alike 38 = .ok (.invokevirtual 71, 3) := by decide +kernel
theorem d_Mo_alike_41 : decode b_Mo_alike 41 = .ok (.i2l, 1) := by decide +kernel
theorem d_Mo_alike_42 : decode b_Mo_alike 42 = .ok (.aload_n 0, 1) := by decide +kernel
theorem d_Mo_alike_43 : decode b_Mo_alike 43 = .ok (.iload_n 2, 1) := by decide +kernel
theorem d_Mo_alike_44 : decode b_Mo_alike 44 = .ok (.iload 6, 2) := by decide +kernel
theorem d_Mo_alike_46 : decode b_Mo_alike 46 = .ok (.invokevirtual 71, 3) := by decide +kernel
theorem d_Mo_alike_49 : decode b_Mo_alike 49 = .ok (.i2l, 1) := by decide +kernel
theorem d_Mo_alike_50 : decode b_Mo_alike 50 = .ok (.lmul, 1) := by decide +kernel
theorem d_Mo_alike_51 : decode b_Mo_alike 51 = .ok (.aload_n 0, 1) := by decide +kernel
theorem d_Mo_alike_52 : decode b_Mo_alike 52 = .ok (.iload_n 1, 1) := by decide +kernel
theorem d_Mo_alike_53 : decode b_Mo_alike 53 = .ok (.iload 6, 2) := by decide +kernel
theorem d_Mo_alike_55 : decode b_Mo_alike 55 = .ok (.invokevirtual 71, 3) := by decide +kernel
theorem d_Mo_alike_58 : decode b_Mo_alike 58 = .ok (.i2l, 1) := by decide +kernel
theorem d_Mo_alike_59 : decode b_Mo_alike 59 = .ok (.aload_n 0, 1) := by decide +kernel
theorem d_Mo_alike_60 : decode b_Mo_alike 60 = .ok (.iload_n 2, 1) := by decide +kernel
theorem d_Mo_alike_61 : decode b_Mo_alike 61 = .ok (.iload 5, 2) := by decide +kernel
theorem d_Mo_alike_63 : decode b_Mo_alike 63 = .ok (.invokevirtual 71, 3) := by decide +kernel
theorem d_Mo_alike_66 : decode b_Mo_alike 66 = .ok (.i2l, 1) := by decide +kernel
theorem d_Mo_alike_67 : decode b_Mo_alike 67 = .ok (.lmul, 1) := by decide +kernel
theorem d_Mo_alike_68 : decode b_Mo_alike 68 = .ok (.lcmp, 1) := by decide +kernel
theorem d_Mo_alike_69 : decode b_Mo_alike 69 = .ok (.ifCond .ne 7, 3) := by decide +kernel
theorem d_Mo_alike_72 : decode b_Mo_alike 72 = .ok (.iconst 1, 1) := by decide +kernel
theorem d_Mo_alike_73 : decode b_Mo_alike 73 = .ok (.goto 4, 3) := by decide +kernel
theorem d_Mo_alike_76 : decode b_Mo_alike 76 = .ok (.iconst 0, 1) := by decide +kernel
theorem d_Mo_alike_77 : decode b_Mo_alike 77 = .ok (.istore_n 3, 1) := by decide +kernel
theorem d_Mo_alike_78 : decode b_Mo_alike 78 = .ok (.aload_n 0, 1) := by decide +kernel
theorem d_Mo_alike_79 : decode b_Mo_alike 79 = .ok (.iload_n 1, 1) := by decide +kernel
theorem d_Mo_alike_80 : decode b_Mo_alike 80 = .ok (.iload 5, 2) := by decide +kernel
theorem d_Mo_alike_82 : decode b_Mo_alike 82 = .ok (.invokevirtual 71, 3) := by decide +kernel
theorem d_Mo_alike_85 : decode b_Mo_alike 85 = .ok (.i2l, 1) := by decide +kernel
theorem d_Mo_alike_86 : decode b_Mo_alike 86 = .ok (.aload_n 0, 1) := by decide +kernel
theorem d_Mo_alike_87 : decode b_Mo_alike 87 = .ok (.iload_n 2, 1) := by decide +kernel
theorem d_Mo_alike_88 : decode b_Mo_alike 88 = .ok (.iload 5, 2) := by decide +kernel
theorem d_Mo_alike_90 : decode b_Mo_alike 90 = .ok (.invokevirtual 71, 3) := by decide +kernel
theorem d_Mo_alike_93 : decode b_Mo_alike 93 = .ok (.i2l, 1) := by decide +kernel
theorem d_Mo_alike_94 : decode b_Mo_alike 94 = .ok (.lmul, 1) := by decide +kernel
theorem d_Mo_alike_95 : decode b_Mo_alike 95 = .ok (.lstore 7, 2) := by decide +kernel
theorem d_Mo_alike_97 : decode b_Mo_alike 97 = .ok (.lload 7, 2) := by decide +kernel
theorem d_Mo_alike_99 : decode b_Mo_alike 99 = .ok (.lconst 0, 1) := by decide +kernel
theorem d_Mo_alike_100 : decode b_Mo_alike 100 = .ok (.lcmp, 1) := by decide +kernel
theorem d_Mo_alike_101 : decode b_Mo_alike 101 = .ok (.ifCond .le 7, 3) := by decide +kernel
theorem d_Mo_alike_104 : decode b_Mo_alike 104 = .ok (.iconst 1, 1) := by decide +kernel
theorem d_Mo_alike_105 : decode b_Mo_alike 105 = .ok (.goto 16, 3) := by decide +kernel
theorem d_Mo_alike_108 : decode b_Mo_alike 108 = .ok (.lload 7, 2) := by decide +kernel
theorem d_Mo_alike_110 : decode b_Mo_alike 110 = .ok (.lconst 0, 1) := by decide +kernel
theorem d_Mo_alike_111 : decode b_Mo_alike 111 = .ok (.lcmp, 1) := by decide +kernel
theorem d_Mo_alike_112 : decode b_Mo_alike 112 = .ok (.ifCond .ge 7, 3) := by decide +kernel
theorem d_Mo_alike_115 : decode b_Mo_alike 115 = .ok (.iconst (-1), 1) := by decide +kernel
theorem d_Mo_alike_116 : decode b_Mo_alike 116 = .ok (.goto 5, 3) := by decide +kernel
theorem d_Mo_alike_119 : decode b_Mo_alike 119 = .ok (.iload 4, 2) := by decide +kernel
theorem d_Mo_alike_121 : decode b_Mo_alike 121 = .ok (.istore 4, 2) := by decide +kernel
theorem d_Mo_alike_123 : decode b_Mo_alike 123 = .ok (.iinc 5 1, 3) := by decide +kernel
theorem d_Mo_alike_126 : decode b_Mo_alike 126 = .ok (.goto (-118), 3) := by decide +kernel
theorem d_Mo_alike_129 : decode b_Mo_alike 129 = .ok (.iload_n 3, 1) := by decide +kernel
theorem d_Mo_alike_130 : decode b_Mo_alike 130 = .ok (.ifCond .eq 8, 3) := by decide +kernel
theorem d_Mo_alike_133 : decode b_Mo_alike 133 = .ok (.iload 4, 2) := by decide +kernel
theorem d_Mo_alike_135 : decode b_Mo_alike 135 = .ok (.goto 4, 3) := by decide +kernel
theorem d_Mo_alike_138 : decode b_Mo_alike 138 = .ok (.iconst 0, 1) := by decide +kernel
theorem d_Mo_alike_139 : decode b_Mo_alike 139 = .ok (.ireturn, 1) := by decide +kernel
theorem d_Mo_choiceAt_0 : decode b_Mo_choiceAt 0 = .ok (.iconst 0, 1) := by decide +kernel
theorem d_Mo_choiceAt_1 : decode b_Mo_choiceAt 1 = .ok (.istore_n 3, 1) := by decide +kernel
theorem d_Mo_choiceAt_2 : decode b_Mo_choiceAt 2 = .ok (.iconst 0, 1) := by decide +kernel
theorem d_Mo_choiceAt_3 : decode b_Mo_choiceAt 3 = .ok (.istore 4, 2) := by decide +kernel
theorem d_Mo_choiceAt_5 : decode b_Mo_choiceAt 5 = .ok (.iload 4, 2) := by decide +kernel
theorem d_Mo_choiceAt_7 : decode b_Mo_choiceAt 7 = .ok (.aload_n 0, 1) := by decide +kernel
theorem d_Mo_choiceAt_8 : decode b_Mo_choiceAt 8 = .ok (.getfield 39, 3) := by decide +kernel
theorem d_Mo_choiceAt_11 : decode b_Mo_choiceAt 11 = .ok (.if_icmp .ge 75, 3) := by decide +kernel
theorem d_Mo_choiceAt_14 : decode b_Mo_choiceAt 14 = .ok (.aload_n 0, 1) := by decide +kernel
theorem d_Mo_choiceAt_15 : decode b_Mo_choiceAt 15 = .ok (.getfield 20, 3) := by decide +kernel
theorem d_Mo_choiceAt_18 : decode b_Mo_choiceAt 18 = .ok (.iload 4, 2) := by decide +kernel
theorem d_Mo_choiceAt_20 : decode b_Mo_choiceAt 20 = .ok (.laload, 1) := by decide +kernel
theorem d_Mo_choiceAt_21 : decode b_Mo_choiceAt 21 = .ok (.lconst 0, 1) := by decide +kernel
theorem d_Mo_choiceAt_22 : decode b_Mo_choiceAt 22 = .ok (.lcmp, 1) := by decide +kernel
theorem d_Mo_choiceAt_23 : decode b_Mo_choiceAt 23 = .ok (.ifCond .lt 34, 3) := by decide +kernel
theorem d_Mo_choiceAt_26 : decode b_Mo_choiceAt 26 = .ok (.aload_n 0, 1) := by decide +kernel
theorem d_Mo_choiceAt_27 : decode b_Mo_choiceAt 27 = .ok (.getfield 20, 3) := by decide +kernel
theorem d_Mo_choiceAt_30 : decode b_Mo_choiceAt 30 = .ok (.iload 4, 2) := by decide +kernel
theorem d_Mo_choiceAt_32 : decode b_Mo_choiceAt 32 = .ok (.laload, 1) := by decide +kernel
theorem d_Mo_choiceAt_33 : decode b_Mo_choiceAt 33 = .ok (.lconst 0, 1) := by decide +kernel
theorem d_Mo_choiceAt_34 : decode b_Mo_choiceAt 34 = .ok (.lcmp, 1) := by decide +kernel
theorem d_Mo_choiceAt_35 : decode b_Mo_choiceAt 35 = .ok (.ifCond .ne 26, 3) := by decide +kernel
theorem d_Mo_choiceAt_38 : decode b_Mo_choiceAt 38 = .ok (.aload_n 0, 1) := by decide +kernel
theorem d_Mo_choiceAt_39 : decode b_Mo_choiceAt 39 = .ok (.iload_n 1, 1) := by decide +kernel
theorem d_Mo_choiceAt_40 : decode b_Mo_choiceAt 40 = .ok (.iload 4, 2) := by decide +kernel
theorem d_Mo_choiceAt_42 : decode b_Mo_choiceAt 42 = .ok (.invokevirtual 74, 3) := by decide +kernel
theorem d_Mo_choiceAt_45 : decode b_Mo_choiceAt 45 = .ok (.ifCond .le 7, 3) := by decide +kernel
theorem d_Mo_choiceAt_48 : decode b_Mo_choiceAt 48 = .ok (.iconst 1, 1) := by decide +kernel
theorem d_Mo_choiceAt_49 : decode b_Mo_choiceAt 49 = .ok (.goto 4, 3) := by decide +kernel
theorem d_Mo_choiceAt_52 : decode b_Mo_choiceAt 52 = .ok (.iconst 0, 1) := by decide +kernel
theorem d_Mo_choiceAt_53 : decode b_Mo_choiceAt 53 = .ok (.iload_n 2, 1) := by decide +kernel
theorem d_Mo_choiceAt_54 : decode b_Mo_choiceAt 54 = .ok (.if_icmp .ne 7, 3) := by decide +kernel
theorem d_Mo_choiceAt_57 : decode b_Mo_choiceAt 57 = .ok (.iconst 1, 1) := by decide +kernel
theorem d_Mo_choiceAt_58 : decode b_Mo_choiceAt 58 = .ok (.goto 4, 3) := by decide +kernel
theorem d_Mo_choiceAt_61 : decode b_Mo_choiceAt 61 = .ok (.iconst 0, 1) := by decide +kernel
theorem d_Mo_choiceAt_62 : decode b_Mo_choiceAt 62 = .ok (.istore 5, 2) := by decide +kernel
theorem d_Mo_choiceAt_64 : decode b_Mo_choiceAt 64 = .ok (.iload_n 3, 1) := by decide +kernel
theorem d_Mo_choiceAt_65 : decode b_Mo_choiceAt 65 = .ok (.iload 5, 2) := by decide +kernel
theorem d_Mo_choiceAt_67 : decode b_Mo_choiceAt 67 = .ok (.ifCond .eq 10, 3) := by decide +kernel
theorem d_Mo_choiceAt_70 : decode b_Mo_choiceAt 70 = .ok (.iconst 1, 1) := by decide +kernel
theorem d_Mo_choiceAt_71 : decode b_Mo_choiceAt 71 = .ok (.iload 4, 2) := by decide +kernel
theorem d_Mo_choiceAt_73 : decode b_Mo_choiceAt 73 = .ok (.ishl, 1) := by decide +kernel
theorem d_Mo_choiceAt_74 : decode b_Mo_choiceAt 74 = .ok (.goto 4, 3) := by decide +kernel
theorem d_Mo_choiceAt_77 : decode b_Mo_choiceAt 77 = .ok (.iconst 0, 1) := by decide +kernel
theorem d_Mo_choiceAt_78 : decode b_Mo_choiceAt 78 = .ok (.iadd, 1) := by decide +kernel
theorem d_Mo_choiceAt_79 : decode b_Mo_choiceAt 79 = .ok (.istore_n 3, 1) := by decide +kernel
theorem d_Mo_choiceAt_80 : decode b_Mo_choiceAt 80 = .ok (.iinc 4 1, 3) := by decide +kernel
theorem d_Mo_choiceAt_83 : decode b_Mo_choiceAt 83 = .ok (.goto (-78), 3) := by decide +kernel
theorem d_Mo_choiceAt_86 : decode b_Mo_choiceAt 86 = .ok (.iload_n 3, 1) := by decide +kernel
theorem d_Mo_choiceAt_87 : decode b_Mo_choiceAt 87 = .ok (.ireturn, 1) := by decide +kernel
theorem d_Mo_sideOf_0 : decode b_Mo_sideOf 0 = .ok (.iconst (-1), 1) := by decide +kernel
theorem d_Mo_sideOf_1 : decode b_Mo_sideOf 1 = .ok (.istore 5, 2) := by decide +kernel
theorem d_Mo_sideOf_3 : decode b_Mo_sideOf 3 = .ok (.iconst 0, 1) := by decide +kernel
theorem d_Mo_sideOf_4 : decode b_Mo_sideOf 4 = .ok (.istore 6, 2) := by decide +kernel
theorem d_Mo_sideOf_6 : decode b_Mo_sideOf 6 = .ok (.iconst 0, 1) := by decide +kernel
theorem d_Mo_sideOf_7 : decode b_Mo_sideOf 7 = .ok (.istore 7, 2) := by decide +kernel
theorem d_Mo_sideOf_9 : decode b_Mo_sideOf 9 = .ok (.iload 7, 2) := by decide +kernel
theorem d_Mo_sideOf_11 : decode b_Mo_sideOf 11 = .ok (.iconst 3, 1) := by decide +kernel
theorem d_Mo_sideOf_12 : decode b_Mo_sideOf 12 = .ok (.if_icmp .ge 64, 3) := by decide +kernel
theorem d_Mo_sideOf_15 : decode b_Mo_sideOf 15 = .ok (.iload 7, 2) := by decide +kernel
theorem d_Mo_sideOf_17 : decode b_Mo_sideOf 17 = .ok (.ifCond .ne 7, 3) := by decide +kernel
theorem d_Mo_sideOf_20 : decode b_Mo_sideOf 20 = .ok (.iload_n 1, 1) := by decide +kernel
theorem d_Mo_sideOf_21 : decode b_Mo_sideOf 21 = .ok (.goto 14, 3) := by decide +kernel
theorem d_Mo_sideOf_24 : decode b_Mo_sideOf 24 = .ok (.iload 7, 2) := by decide +kernel
theorem d_Mo_sideOf_26 : decode b_Mo_sideOf 26 = .ok (.iconst 1, 1) := by decide +kernel
theorem d_Mo_sideOf_27 : decode b_Mo_sideOf 27 = .ok (.if_icmp .ne 7, 3) := by decide +kernel
theorem d_Mo_sideOf_30 : decode b_Mo_sideOf 30 = .ok (.iload_n 2, 1) := by decide +kernel
theorem d_Mo_sideOf_31 : decode b_Mo_sideOf 31 = .ok (.goto 4, 3) := by decide +kernel
theorem d_Mo_sideOf_34 : decode b_Mo_sideOf 34 = .ok (.iload_n 3, 1) := by decide +kernel
theorem d_Mo_sideOf_35 : decode b_Mo_sideOf 35 = .ok (.istore 8, 2) := by decide +kernel
theorem d_Mo_sideOf_37 : decode b_Mo_sideOf 37 = .ok (.iload 8, 2) := by decide +kernel
theorem d_Mo_sideOf_39 : decode b_Mo_sideOf 39 = .ok (.iload 4, 2) := by decide +kernel
theorem d_Mo_sideOf_41 : decode b_Mo_sideOf 41 = .ok (.invokestatic 59, 3) := by decide +kernel
theorem d_Mo_sideOf_44 : decode b_Mo_sideOf 44 = .ok (.ifCond .ne 26, 3) := by decide +kernel
theorem d_Mo_sideOf_47 : decode b_Mo_sideOf 47 = .ok (.iload 8, 2) := by decide +kernel
theorem d_Mo_sideOf_49 : decode b_Mo_sideOf 49 = .ok (.ifCond .le 11, 3) := by decide +kernel
theorem d_Mo_sideOf_52 : decode b_Mo_sideOf 52 = .ok (.bipush 10, 2) := by decide +kernel
theorem d_Mo_sideOf_54 : decode b_Mo_sideOf 54 = .ok (.iload 7, 2) := by decide +kernel
theorem d_Mo_sideOf_56 : decode b_Mo_sideOf 56 = .ok (.iadd, 1) := by decide +kernel
theorem d_Mo_sideOf_57 : decode b_Mo_sideOf 57 = .ok (.goto 8, 3) := by decide +kernel
theorem d_Mo_sideOf_60 : decode b_Mo_sideOf 60 = .ok (.bipush 13, 2) := by decide +kernel
theorem d_Mo_sideOf_62 : decode b_Mo_sideOf 62 = .ok (.iload 7, 2) := by decide +kernel
theorem d_Mo_sideOf_64 : decode b_Mo_sideOf 64 = .ok (.iadd, 1) := by decide +kernel
theorem d_Mo_sideOf_65 : decode b_Mo_sideOf 65 = .ok (.istore 5, 2) := by decide +kernel
theorem d_Mo_sideOf_67 : decode b_Mo_sideOf 67 = .ok (.iinc 6 1, 3) := by decide +kernel
theorem d_Mo_sideOf_70 : decode b_Mo_sideOf 70 = .ok (.iinc 7 1, 3) := by decide +kernel
theorem d_Mo_sideOf_73 : decode b_Mo_sideOf 73 = .ok (.goto (-64), 3) := by decide +kernel
theorem d_Mo_sideOf_76 : decode b_Mo_sideOf 76 = .ok (.iload 6, 2) := by decide +kernel
theorem d_Mo_sideOf_78 : decode b_Mo_sideOf 78 = .ok (.iconst 1, 1) := by decide +kernel
theorem d_Mo_sideOf_79 : decode b_Mo_sideOf 79 = .ok (.if_icmp .le 5, 3) := by decide +kernel
theorem d_Mo_sideOf_82 : decode b_Mo_sideOf 82 = .ok (.iconst (-1), 1) := by decide +kernel
theorem d_Mo_sideOf_83 : decode b_Mo_sideOf 83 = .ok (.ireturn, 1) := by decide +kernel
theorem d_Mo_sideOf_84 : decode b_Mo_sideOf 84 = .ok (.iconst 0, 1) := by decide +kernel
theorem d_Mo_sideOf_85 : decode b_Mo_sideOf 85 = .ok (.istore 7, 2) := by decide +kernel
theorem d_Mo_sideOf_87 : decode b_Mo_sideOf 87 = .ok (.iload 7, 2) := by decide +kernel
theorem d_Mo_sideOf_89 : decode b_Mo_sideOf 89 = .ok (.aload_n 0, 1) := by decide +kernel
theorem d_Mo_sideOf_90 : decode b_Mo_sideOf 90 = .ok (.getfield 39, 3) := by decide +kernel
theorem d_Mo_sideOf_93 : decode b_Mo_sideOf 93 = .ok (.if_icmp .ge 48, 3) := by decide +kernel
theorem d_Mo_sideOf_96 : decode b_Mo_sideOf 96 = .ok (.aload_n 0, 1) := by decide +kernel
theorem d_Mo_sideOf_97 : decode b_Mo_sideOf 97 = .ok (.getfield 20, 3) := by decide +kernel
theorem d_Mo_sideOf_100 : decode b_Mo_sideOf 100 = .ok (.iload 7, 2) := by decide +kernel
theorem d_Mo_sideOf_102 : decode b_Mo_sideOf 102 = .ok (.laload, 1) := by decide +kernel
theorem d_Mo_sideOf_103 : decode b_Mo_sideOf 103 = .ok (.lconst 0, 1) := by decide +kernel
theorem d_Mo_sideOf_104 : decode b_Mo_sideOf 104 = .ok (.lcmp, 1) := by decide +kernel
theorem d_Mo_sideOf_105 : decode b_Mo_sideOf 105 = .ok (.ifCond .ne 30, 3) := by decide +kernel
theorem d_Mo_sideOf_108 : decode b_Mo_sideOf 108 = .ok (.iload 5, 2) := by decide +kernel
theorem d_Mo_sideOf_110 : decode b_Mo_sideOf 110 = .ok (.ifCond .ge 8, 3) := by decide +kernel
theorem d_Mo_sideOf_113 : decode b_Mo_sideOf 113 = .ok (.iload 7, 2) := by decide +kernel
theorem d_Mo_sideOf_115 : decode b_Mo_sideOf 115 = .ok (.goto 5, 3) := by decide +kernel
theorem d_Mo_sideOf_118 : decode b_Mo_sideOf 118 = .ok (.iload 5, 2) := by decide +kernel
theorem d_Mo_sideOf_120 : decode b_Mo_sideOf 120 = .ok (.istore 5, 2) := by decide +kernel
theorem d_Mo_sideOf_122 : decode b_Mo_sideOf 122 = .ok (.aload_n 0, 1) := by decide +kernel
theorem d_Mo_sideOf_123 : decode b_Mo_sideOf 123 = .ok (.iload 5, 2) := by decide +kernel
theorem d_Mo_sideOf_125 : decode b_Mo_sideOf 125 = .ok (.iload 7, 2) := by decide +kernel
theorem d_Mo_sideOf_127 : decode b_Mo_sideOf 127 = .ok (.invokevirtual 74, 3) := by decide +kernel
theorem d_Mo_sideOf_130 : decode b_Mo_sideOf 130 = .ok (.ifCond .ne 5, 3) := by decide +kernel
theorem d_Mo_sideOf_133 : decode b_Mo_sideOf 133 = .ok (.iconst (-1), 1) := by decide +kernel
theorem d_Mo_sideOf_134 : decode b_Mo_sideOf 134 = .ok (.ireturn, 1) := by decide +kernel
theorem d_Mo_sideOf_135 : decode b_Mo_sideOf 135 = .ok (.iinc 7 1, 3) := by decide +kernel
theorem d_Mo_sideOf_138 : decode b_Mo_sideOf 138 = .ok (.goto (-51), 3) := by decide +kernel
theorem d_Mo_sideOf_141 : decode b_Mo_sideOf 141 = .ok (.iload 5, 2) := by decide +kernel
theorem d_Mo_sideOf_143 : decode b_Mo_sideOf 143 = .ok (.ireturn, 1) := by decide +kernel
theorem d_Mo_side_0 : decode b_Mo_side 0 = .ok (.aload_n 0, 1) := by decide +kernel
theorem d_Mo_side_1 : decode b_Mo_side 1 = .ok (.iload_n 1, 1) := by decide +kernel
theorem d_Mo_side_2 : decode b_Mo_side 2 = .ok (.iload_n 2, 1) := by decide +kernel
theorem d_Mo_side_3 : decode b_Mo_side 3 = .ok (.iload_n 3, 1) := by decide +kernel
theorem d_Mo_side_4 : decode b_Mo_side 4 = .ok (.iload 4, 2) := by decide +kernel
theorem d_Mo_side_6 : decode b_Mo_side 6 = .ok (.invokestatic 47, 3) := by decide +kernel
theorem d_Mo_side_9 : decode b_Mo_side 9 = .ok (.ifCond .ne 7, 3) := by decide +kernel
theorem d_Mo_side_12 : decode b_Mo_side 12 = .ok (.iconst 1, 1) := by decide +kernel
theorem d_Mo_side_13 : decode b_Mo_side 13 = .ok (.goto 15, 3) := by decide +kernel
theorem d_Mo_side_16 : decode b_Mo_side 16 = .ok (.aload_n 0, 1) := by decide +kernel
theorem d_Mo_side_17 : decode b_Mo_side 17 = .ok (.getfield 42, 3) := by decide +kernel
theorem d_Mo_side_20 : decode b_Mo_side 20 = .ok (.ifCond .ne 7, 3) := by decide +kernel
theorem d_Mo_side_23 : decode b_Mo_side 23 = .ok (.iconst 2, 1) := by decide +kernel
theorem d_Mo_side_24 : decode b_Mo_side 24 = .ok (.goto 4, 3) := by decide +kernel
theorem d_Mo_side_27 : decode b_Mo_side 27 = .ok (.iconst 0, 1) := by decide +kernel
theorem d_Mo_side_28 : decode b_Mo_side 28 = .ok (.putfield 29, 3) := by decide +kernel
theorem d_Mo_side_31 : decode b_Mo_side 31 = .ok (.aload_n 0, 1) := by decide +kernel
theorem d_Mo_side_32 : decode b_Mo_side 32 = .ok (.getfield 29, 3) := by decide +kernel
theorem d_Mo_side_35 : decode b_Mo_side 35 = .ok (.ifCond .le 5, 3) := by decide +kernel
theorem d_Mo_side_38 : decode b_Mo_side 38 = .ok (.iconst 0, 1) := by decide +kernel
theorem d_Mo_side_39 : decode b_Mo_side 39 = .ok (.ireturn, 1) := by decide +kernel
theorem d_Mo_side_40 : decode b_Mo_side 40 = .ok (.aload_n 0, 1) := by decide +kernel
theorem d_Mo_side_41 : decode b_Mo_side 41 = .ok (.iload_n 1, 1) := by decide +kernel
theorem d_Mo_side_42 : decode b_Mo_side 42 = .ok (.iload_n 2, 1) := by decide +kernel
theorem d_Mo_side_43 : decode b_Mo_side 43 = .ok (.iload_n 3, 1) := by decide +kernel
theorem d_Mo_side_44 : decode b_Mo_side 44 = .ok (.iload 4, 2) := by decide +kernel
theorem d_Mo_side_46 : decode b_Mo_side 46 = .ok (.invokevirtual 51, 3) := by decide +kernel
theorem d_Mo_side_49 : decode b_Mo_side 49 = .ok (.aload_n 0, 1) := by decide +kernel
theorem d_Mo_side_50 : decode b_Mo_side 50 = .ok (.iload_n 1, 1) := by decide +kernel
theorem d_Mo_side_51 : decode b_Mo_side 51 = .ok (.iload_n 2, 1) := by decide +kernel
theorem d_Mo_side_52 : decode b_Mo_side 52 = .ok (.iload_n 3, 1) := by decide +kernel
theorem d_Mo_side_53 : decode b_Mo_side 53 = .ok (.iload 4, 2) := by decide +kernel
theorem d_Mo_side_55 : decode b_Mo_side 55 = .ok (.invokevirtual 77, 3) := by decide +kernel
theorem d_Mo_side_58 : decode b_Mo_side 58 = .ok (.istore 5, 2) := by decide +kernel
theorem d_Mo_side_60 : decode b_Mo_side 60 = .ok (.iload 5, 2) := by decide +kernel
theorem d_Mo_side_62 : decode b_Mo_side 62 = .ok (.ifCond .ge 10, 3) := by decide +kernel
theorem d_Mo_side_65 : decode b_Mo_side 65 = .ok (.aload_n 0, 1) := by decide +kernel
theorem d_Mo_side_66 : decode b_Mo_side 66 = .ok (.iconst 3, 1) := by decide +kernel
theorem d_Mo_side_67 : decode b_Mo_side 67 = .ok (.putfield 29, 3) := by decide +kernel
theorem d_Mo_side_70 : decode b_Mo_side 70 = .ok (.iconst 0, 1) := by decide +kernel
theorem d_Mo_side_71 : decode b_Mo_side 71 = .ok (.ireturn, 1) := by decide +kernel
theorem d_Mo_side_72 : decode b_Mo_side 72 = .ok (.iload_n 1, 1) := by decide +kernel
theorem d_Mo_side_73 : decode b_Mo_side 73 = .ok (.iload 4, 2) := by decide +kernel
theorem d_Mo_side_75 : decode b_Mo_side 75 = .ok (.invokestatic 59, 3) := by decide +kernel
theorem d_Mo_side_78 : decode b_Mo_side 78 = .ok (.ifCond .lt 25, 3) := by decide +kernel
theorem d_Mo_side_81 : decode b_Mo_side 81 = .ok (.iload_n 2, 1) := by decide +kernel
theorem d_Mo_side_82 : decode b_Mo_side 82 = .ok (.iload 4, 2) := by decide +kernel
theorem d_Mo_side_84 : decode b_Mo_side 84 = .ok (.invokestatic 59, 3) := by decide +kernel
theorem d_Mo_side_87 : decode b_Mo_side 87 = .ok (.ifCond .lt 16, 3) := by decide +kernel
theorem d_Mo_side_90 : decode b_Mo_side 90 = .ok (.iload_n 3, 1) := by decide +kernel
theorem d_Mo_side_91 : decode b_Mo_side 91 = .ok (.iload 4, 2) := by decide +kernel
theorem d_Mo_side_93 : decode b_Mo_side 93 = .ok (.invokestatic 59, 3) := by decide +kernel
theorem d_Mo_side_96 : decode b_Mo_side 96 = .ok (.ifCond .lt 7, 3) := by decide +kernel
theorem d_Mo_side_99 : decode b_Mo_side 99 = .ok (.iconst 1, 1) := by decide +kernel
theorem d_Mo_side_100 : decode b_Mo_side 100 = .ok (.goto 4, 3) := by decide +kernel
theorem d_Mo_side_103 : decode b_Mo_side 103 = .ok (.iconst 0, 1) := by decide +kernel
theorem d_Mo_side_104 : decode b_Mo_side 104 = .ok (.istore 6, 2) := by decide +kernel
theorem d_Mo_side_106 : decode b_Mo_side 106 = .ok (.iload 6, 2) := by decide +kernel
theorem d_Mo_side_108 : decode b_Mo_side 108 = .ok (.ifCond .eq 21, 3) := by decide +kernel
theorem d_Mo_side_111 : decode b_Mo_side 111 = .ok (.aload_n 0, 1) := by decide +kernel
theorem d_Mo_side_112 : decode b_Mo_side 112 = .ok (.aload_n 0, 1) := by decide +kernel
theorem d_Mo_side_113 : decode b_Mo_side 113 = .ok (.iload 5, 2) := by decide +kernel
theorem d_Mo_side_115 : decode b_Mo_side 115 = .ok (.iconst 1, 1) := by decide +kernel
theorem d_Mo_side_116 : decode b_Mo_side 116 = .ok (.invokevirtual 81, 3) := by decide +kernel
theorem d_Mo_side_119 : decode b_Mo_side 119 = .ok (.invokevirtual 67, 3) := by decide +kernel
theorem d_Mo_side_122 : decode b_Mo_side 122 = .ok (.ifCond .eq 7, 3) := by decide +kernel
theorem d_Mo_side_125 : decode b_Mo_side 125 = .ok (.iconst 1, 1) := by decide +kernel
theorem d_Mo_side_126 : decode b_Mo_side 126 = .ok (.goto 4, 3) := by decide +kernel
theorem d_Mo_side_129 : decode b_Mo_side 129 = .ok (.iconst 0, 1) := by decide +kernel
theorem d_Mo_side_130 : decode b_Mo_side 130 = .ok (.istore 7, 2) := by decide +kernel
theorem d_Mo_side_132 : decode b_Mo_side 132 = .ok (.iload 6, 2) := by decide +kernel
theorem d_Mo_side_134 : decode b_Mo_side 134 = .ok (.ifCond .eq 28, 3) := by decide +kernel
theorem d_Mo_side_137 : decode b_Mo_side 137 = .ok (.iload 5, 2) := by decide +kernel
theorem d_Mo_side_139 : decode b_Mo_side 139 = .ok (.bipush 10, 2) := by decide +kernel
theorem d_Mo_side_141 : decode b_Mo_side 141 = .ok (.if_icmp .ge 21, 3) := by decide +kernel
theorem d_Mo_side_144 : decode b_Mo_side 144 = .ok (.aload_n 0, 1) := by decide +kernel
theorem d_Mo_side_145 : decode b_Mo_side 145 = .ok (.aload_n 0, 1) := by decide +kernel
theorem d_Mo_side_146 : decode b_Mo_side 146 = .ok (.iload 5, 2) := by decide +kernel
theorem d_Mo_side_148 : decode b_Mo_side 148 = .ok (.iconst 0, 1) := by decide +kernel
theorem d_Mo_side_149 : decode b_Mo_side 149 = .ok (.invokevirtual 81, 3) := by decide +kernel
theorem d_Mo_side_152 : decode b_Mo_side 152 = .ok (.invokevirtual 67, 3) := by decide +kernel
theorem d_Mo_side_155 : decode b_Mo_side 155 = .ok (.ifCond .eq 7, 3) := by decide +kernel
theorem d_Mo_side_158 : decode b_Mo_side 158 = .ok (.iconst 1, 1) := by decide +kernel
theorem d_Mo_side_159 : decode b_Mo_side 159 = .ok (.goto 4, 3) := by decide +kernel
theorem d_Mo_side_162 : decode b_Mo_side 162 = .ok (.iconst 0, 1) := by decide +kernel
theorem d_Mo_side_163 : decode b_Mo_side 163 = .ok (.istore 8, 2) := by decide +kernel
theorem d_Mo_side_165 : decode b_Mo_side 165 = .ok (.iload 7, 2) := by decide +kernel
theorem d_Mo_side_167 : decode b_Mo_side 167 = .ok (.iload 8, 2) := by decide +kernel
theorem d_Mo_side_169 : decode b_Mo_side 169 = .ok (.if_icmp .ne 7, 3) := by decide +kernel
theorem d_Mo_side_172 : decode b_Mo_side 172 = .ok (.iconst 0, 1) := by decide +kernel
theorem d_Mo_side_173 : decode b_Mo_side 173 = .ok (.goto 13, 3) := by decide +kernel
theorem d_Mo_side_176 : decode b_Mo_side 176 = .ok (.iload 7, 2) := by decide +kernel
theorem d_Mo_side_178 : decode b_Mo_side 178 = .ok (.ifCond .eq 7, 3) := by decide +kernel
theorem d_Mo_side_181 : decode b_Mo_side 181 = .ok (.iconst 1, 1) := by decide +kernel
theorem d_Mo_side_182 : decode b_Mo_side 182 = .ok (.goto 4, 3) := by decide +kernel
theorem d_Mo_side_185 : decode b_Mo_side 185 = .ok (.iconst (-1), 1) := by decide +kernel
theorem d_Mo_side_186 : decode b_Mo_side 186 = .ok (.ireturn, 1) := by decide +kernel
theorem d_Mo_compare_0 : decode b_Mo_compare 0 = .ok (.lload_n 0, 1) := by decide +kernel
theorem d_Mo_compare_1 : decode b_Mo_compare 1 = .ok (.lload 6, 2) := by decide +kernel
theorem d_Mo_compare_3 : decode b_Mo_compare 3 = .ok (.lmul, 1) := by decide +kernel
theorem d_Mo_compare_4 : decode b_Mo_compare 4 = .ok (.lstore 8, 2) := by decide +kernel
theorem d_Mo_compare_6 : decode b_Mo_compare 6 = .ok (.lload 4, 2) := by decide +kernel
theorem d_Mo_compare_8 : decode b_Mo_compare 8 = .ok (.lload_n 2, 1) := by decide +kernel
theorem d_Mo_compare_9 : decode b_Mo_compare 9 = .ok (.lmul, 1) := by decide +kernel
theorem d_Mo_compare_10 : decode b_Mo_compare 10 = .ok (.lstore 10, 2) := by decide +kernel
theorem d_Mo_compare_12 : decode b_Mo_compare 12 = .ok (.lload 8, 2) := by decide +kernel
theorem d_Mo_compare_14 : decode b_Mo_compare 14 = .ok (.lload 10, 2) := by decide +kernel
theorem d_Mo_compare_16 : decode b_Mo_compare 16 = .ok (.lcmp, 1) := by decide +kernel
theorem d_Mo_compare_17 : decode b_Mo_compare 17 = .ok (.ifCond .ge 7, 3) := by decide +kernel
theorem d_Mo_compare_20 : decode b_Mo_compare 20 = .ok (.iconst (-1), 1) := by decide +kernel
theorem d_Mo_compare_21 : decode b_Mo_compare 21 = .ok (.goto 16, 3) := by decide +kernel
theorem d_Mo_compare_24 : decode b_Mo_compare 24 = .ok (.lload 8, 2) := by decide +kernel
theorem d_Mo_compare_26 : decode b_Mo_compare 26 = .ok (.lload 10, 2) := by decide +kernel
theorem d_Mo_compare_28 : decode b_Mo_compare 28 = .ok (.lcmp, 1) := by decide +kernel
theorem d_Mo_compare_29 : decode b_Mo_compare 29 = .ok (.ifCond .le 7, 3) := by decide +kernel
theorem d_Mo_compare_32 : decode b_Mo_compare 32 = .ok (.iconst 1, 1) := by decide +kernel
theorem d_Mo_compare_33 : decode b_Mo_compare 33 = .ok (.goto 4, 3) := by decide +kernel
theorem d_Mo_compare_36 : decode b_Mo_compare 36 = .ok (.iconst 0, 1) := by decide +kernel
theorem d_Mo_compare_37 : decode b_Mo_compare 37 = .ok (.ireturn, 1) := by decide +kernel
theorem d_Mo_meet_0 : decode b_Mo_meet 0 = .ok (.iload_n 1, 1) := by decide +kernel
theorem d_Mo_meet_1 : decode b_Mo_meet 1 = .ok (.ifCond .ne 7, 3) := by decide +kernel
theorem d_Mo_meet_4 : decode b_Mo_meet 4 = .ok (.iconst 1, 1) := by decide +kernel
theorem d_Mo_meet_5 : decode b_Mo_meet 5 = .ok (.goto 4, 3) := by decide +kernel
theorem d_Mo_meet_8 : decode b_Mo_meet 8 = .ok (.iconst 0, 1) := by decide +kernel
theorem d_Mo_meet_9 : decode b_Mo_meet 9 = .ok (.istore 4, 2) := by decide +kernel
theorem d_Mo_meet_11 : decode b_Mo_meet 11 = .ok (.iload_n 1, 1) := by decide +kernel
theorem d_Mo_meet_12 : decode b_Mo_meet 12 = .ok (.iconst 2, 1) := by decide +kernel
theorem d_Mo_meet_13 : decode b_Mo_meet 13 = .ok (.if_icmp .ne 7, 3) := by decide +kernel
theorem d_Mo_meet_16 : decode b_Mo_meet 16 = .ok (.iconst 1, 1) := by decide +kernel
theorem d_Mo_meet_17 : decode b_Mo_meet 17 = .ok (.goto 4, 3) := by decide +kernel
theorem d_Mo_meet_20 : decode b_Mo_meet 20 = .ok (.iconst 2, 1) := by decide +kernel
theorem d_Mo_meet_21 : decode b_Mo_meet 21 = .ok (.istore 5, 2) := by decide +kernel
theorem d_Mo_meet_23 : decode b_Mo_meet 23 = .ok (.iconst 0, 1) := by decide +kernel
theorem d_Mo_meet_24 : decode b_Mo_meet 24 = .ok (.istore 6, 2) := by decide +kernel
theorem d_Mo_meet_26 : decode b_Mo_meet 26 = .ok (.iload 6, 2) := by decide +kernel
theorem d_Mo_meet_28 : decode b_Mo_meet 28 = .ok (.aload_n 0, 1) := by decide +kernel
theorem d_Mo_meet_29 : decode b_Mo_meet 29 = .ok (.getfield 39, 3) := by decide +kernel
theorem d_Mo_meet_32 : decode b_Mo_meet 32 = .ok (.if_icmp .ge 137, 3) := by decide +kernel
theorem d_Mo_meet_35 : decode b_Mo_meet 35 = .ok (.aload_n 0, 1) := by decide +kernel
theorem d_Mo_meet_36 : decode b_Mo_meet 36 = .ok (.getfield 7, 3) := by decide +kernel
theorem d_Mo_meet_39 : decode b_Mo_meet 39 = .ok (.iconst 3, 1) := by decide +kernel
theorem d_Mo_meet_40 : decode b_Mo_meet 40 = .ok (.iload 6, 2) := by decide +kernel
theorem d_Mo_meet_42 : decode b_Mo_meet 42 = .ok (.imul, 1) := by decide +kernel
theorem d_Mo_meet_43 : decode b_Mo_meet 43 = .ok (.iload_n 1, 1) := by decide +kernel
theorem d_Mo_meet_44 : decode b_Mo_meet 44 = .ok (.iadd, 1) := by decide +kernel
theorem d_Mo_meet_45 : decode b_Mo_meet 45 = .ok (.iaload, 1) := by decide +kernel
theorem d_Mo_meet_46 : decode b_Mo_meet 46 = .ok (.i2l, 1) := by decide +kernel
theorem d_Mo_meet_47 : decode b_Mo_meet 47 = .ok (.lstore 7, 2) := by decide +kernel
theorem d_Mo_meet_49 : decode b_Mo_meet 49 = .ok (.aload_n 0, 1) := by decide +kernel
theorem d_Mo_meet_50 : decode b_Mo_meet 50 = .ok (.getfield 13, 3) := by decide +kernel
theorem d_Mo_meet_53 : decode b_Mo_meet 53 = .ok (.iload 6, 2) := by decide +kernel
theorem d_Mo_meet_55 : decode b_Mo_meet 55 = .ok (.iaload, 1) := by decide +kernel
theorem d_Mo_meet_56 : decode b_Mo_meet 56 = .ok (.i2l, 1) := by decide +kernel
theorem d_Mo_meet_57 : decode b_Mo_meet 57 = .ok (.aload_n 0, 1) := by decide +kernel
theorem d_Mo_meet_58 : decode b_Mo_meet 58 = .ok (.getfield 7, 3) := by decide +kernel
theorem d_Mo_meet_61 : decode b_Mo_meet 61 = .ok (.iconst 3, 1) := by decide +kernel
theorem d_Mo_meet_62 : decode b_Mo_meet 62 = .ok (.iload 6, 2) := by decide +kernel
theorem d_Mo_meet_64 : decode b_Mo_meet 64 = .ok (.imul, 1) := by decide +kernel
theorem d_Mo_meet_65 : decode b_Mo_meet 65 = .ok (.iload 4, 2) := by decide +kernel
theorem d_Mo_meet_67 : decode b_Mo_meet 67 = .ok (.iadd, 1) := by decide +kernel
theorem d_Mo_meet_68 : decode b_Mo_meet 68 = .ok (.iaload, 1) := by decide +kernel
theorem d_Mo_meet_69 : decode b_Mo_meet 69 = .ok (.i2l, 1) := by decide +kernel
theorem d_Mo_meet_70 : decode b_Mo_meet 70 = .ok (.iload_n 2, 1) := by decide +kernel
theorem d_Mo_meet_71 : decode b_Mo_meet 71 = .ok (.i2l, 1) := by decide +kernel
theorem d_Mo_meet_72 : decode b_Mo_meet 72 = .ok (.lmul, 1) := by decide +kernel
theorem d_Mo_meet_73 : decode b_Mo_meet 73 = .ok (.lsub, 1) := by decide +kernel
theorem d_Mo_meet_74 : decode b_Mo_meet 74 = .ok (.aload_n 0, 1) := by decide +kernel
theorem d_Mo_meet_75 : decode b_Mo_meet 75 = .ok (.getfield 7, 3) := by decide +kernel
theorem d_Mo_meet_78 : decode b_Mo_meet 78 = .ok (.iconst 3, 1) := by decide +kernel
theorem d_Mo_meet_79 : decode b_Mo_meet 79 = .ok (.iload 6, 2) := by decide +kernel
theorem d_Mo_meet_81 : decode b_Mo_meet 81 = .ok (.imul, 1) := by decide +kernel
theorem d_Mo_meet_82 : decode b_Mo_meet 82 = .ok (.iload 5, 2) := by decide +kernel
theorem d_Mo_meet_84 : decode b_Mo_meet 84 = .ok (.iadd, 1) := by decide +kernel
theorem d_Mo_meet_85 : decode b_Mo_meet 85 = .ok (.iaload, 1) := by decide +kernel
theorem d_Mo_meet_86 : decode b_Mo_meet 86 = .ok (.i2l, 1) := by decide +kernel
theorem d_Mo_meet_87 : decode b_Mo_meet 87 = .ok (.iload_n 3, 1) := by decide +kernel
theorem d_Mo_meet_88 : decode b_Mo_meet 88 = .ok (.i2l, 1) := by decide +kernel
theorem d_Mo_meet_89 : decode b_Mo_meet 89 = .ok (.lmul, 1) := by decide +kernel
theorem d_Mo_meet_90 : decode b_Mo_meet 90 = .ok (.lsub, 1) := by decide +kernel
theorem d_Mo_meet_91 : decode b_Mo_meet 91 = .ok (.lstore 9, 2) := by decide +kernel
theorem d_Mo_meet_93 : decode b_Mo_meet 93 = .ok (.lload 7, 2) := by decide +kernel
theorem d_Mo_meet_95 : decode b_Mo_meet 95 = .ok (.lconst 0, 1) := by decide +kernel
theorem d_Mo_meet_96 : decode b_Mo_meet 96 = .ok (.lcmp, 1) := by decide +kernel
theorem d_Mo_meet_97 : decode b_Mo_meet 97 = .ok (.ifCond .ne 12, 3) := by decide +kernel
theorem d_Mo_meet_100 : decode b_Mo_meet 100 = .ok (.lload 9, 2) := by decide +kernel
theorem d_Mo_meet_102 : decode b_Mo_meet 102 = .ok (.lconst 0, 1) := by decide +kernel
theorem d_Mo_meet_103 : decode b_Mo_meet 103 = .ok (.lcmp, 1) := by decide +kernel
theorem d_Mo_meet_104 : decode b_Mo_meet 104 = .ok (.ifCond .ne 5, 3) := by decide +kernel
theorem d_Mo_meet_107 : decode b_Mo_meet 107 = .ok (.iconst 0, 1) := by decide +kernel
theorem d_Mo_meet_108 : decode b_Mo_meet 108 = .ok (.ireturn, 1) := by decide +kernel
theorem d_Mo_meet_109 : decode b_Mo_meet 109 = .ok (.aload_n 0, 1) := by decide +kernel
theorem d_Mo_meet_110 : decode b_Mo_meet 110 = .ok (.getfield 20, 3) := by decide +kernel
theorem d_Mo_meet_113 : decode b_Mo_meet 113 = .ok (.iload 6, 2) := by decide +kernel
theorem d_Mo_meet_115 : decode b_Mo_meet 115 = .ok (.lload 9, 2) := by decide +kernel
theorem d_Mo_meet_117 : decode b_Mo_meet 117 = .ok (.lneg, 1) := by decide +kernel
theorem d_Mo_meet_118 : decode b_Mo_meet 118 = .ok (.lastore, 1) := by decide +kernel
theorem d_Mo_meet_119 : decode b_Mo_meet 119 = .ok (.aload_n 0, 1) := by decide +kernel
theorem d_Mo_meet_120 : decode b_Mo_meet 120 = .ok (.getfield 23, 3) := by decide +kernel
theorem d_Mo_meet_123 : decode b_Mo_meet 123 = .ok (.iload 6, 2) := by decide +kernel
theorem d_Mo_meet_125 : decode b_Mo_meet 125 = .ok (.lload 7, 2) := by decide +kernel
theorem d_Mo_meet_127 : decode b_Mo_meet 127 = .ok (.lconst 0, 1) := by decide +kernel
theorem d_Mo_meet_128 : decode b_Mo_meet 128 = .ok (.lcmp, 1) := by decide +kernel
theorem d_Mo_meet_129 : decode b_Mo_meet 129 = .ok (.ifCond .ge 9, 3) := by decide +kernel
theorem d_Mo_meet_132 : decode b_Mo_meet 132 = .ok (.lload 9, 2) := by decide +kernel
theorem d_Mo_meet_134 : decode b_Mo_meet 134 = .ok (.lneg, 1) := by decide +kernel
theorem d_Mo_meet_135 : decode b_Mo_meet 135 = .ok (.goto 5, 3) := by decide +kernel
theorem d_Mo_meet_138 : decode b_Mo_meet 138 = .ok (.lload 9, 2) := by decide +kernel
theorem d_Mo_meet_140 : decode b_Mo_meet 140 = .ok (.lastore, 1) := by decide +kernel
theorem d_Mo_meet_141 : decode b_Mo_meet 141 = .ok (.aload_n 0, 1) := by decide +kernel
theorem d_Mo_meet_142 : decode b_Mo_meet 142 = .ok (.getfield 26, 3) := by decide +kernel
theorem d_Mo_meet_145 : decode b_Mo_meet 145 = .ok (.iload 6, 2) := by decide +kernel
theorem d_Mo_meet_147 : decode b_Mo_meet 147 = .ok (.lload 7, 2) := by decide +kernel
theorem d_Mo_meet_149 : decode b_Mo_meet 149 = .ok (.lconst 0, 1) := by decide +kernel
theorem d_Mo_meet_150 : decode b_Mo_meet 150 = .ok (.lcmp, 1) := by decide +kernel
theorem d_Mo_meet_151 : decode b_Mo_meet 151 = .ok (.ifCond .ge 9, 3) := by decide +kernel
theorem d_Mo_meet_154 : decode b_Mo_meet 154 = .ok (.lload 7, 2) := by decide +kernel
theorem d_Mo_meet_156 : decode b_Mo_meet 156 = .ok (.lneg, 1) := by decide +kernel
theorem d_Mo_meet_157 : decode b_Mo_meet 157 = .ok (.goto 5, 3) := by decide +kernel
theorem d_Mo_meet_160 : decode b_Mo_meet 160 = .ok (.lload 7, 2) := by decide +kernel
theorem d_Mo_meet_162 : decode b_Mo_meet 162 = .ok (.lastore, 1) := by decide +kernel
theorem d_Mo_meet_163 : decode b_Mo_meet 163 = .ok (.iinc 6 1, 3) := by decide +kernel
theorem d_Mo_meet_166 : decode b_Mo_meet 166 = .ok (.goto (-140), 3) := by decide +kernel
theorem d_Mo_meet_169 : decode b_Mo_meet 169 = .ok (.iconst 1, 1) := by decide +kernel
theorem d_Mo_meet_170 : decode b_Mo_meet 170 = .ok (.ireturn, 1) := by decide +kernel
theorem d_Mo_isInBox_0 : decode b_Mo_isInBox 0 = .ok (.aload_n 0, 1) := by decide +kernel
theorem d_Mo_isInBox_1 : decode b_Mo_isInBox 1 = .ok (.getfield 26, 3) := by decide +kernel
theorem d_Mo_isInBox_4 : decode b_Mo_isInBox 4 = .ok (.iload_n 1, 1) := by decide +kernel
theorem d_Mo_isInBox_5 : decode b_Mo_isInBox 5 = .ok (.laload, 1) := by decide +kernel
theorem d_Mo_isInBox_6 : decode b_Mo_isInBox 6 = .ok (.lconst 0, 1) := by decide +kernel
theorem d_Mo_isInBox_7 : decode b_Mo_isInBox 7 = .ok (.lcmp, 1) := by decide +kernel
theorem d_Mo_isInBox_8 : decode b_Mo_isInBox 8 = .ok (.ifCond .le 51, 3) := by decide +kernel
theorem d_Mo_isInBox_11 : decode b_Mo_isInBox 11 = .ok (.aload_n 0, 1) := by decide +kernel
theorem d_Mo_isInBox_12 : decode b_Mo_isInBox 12 = .ok (.getfield 23, 3) := by decide +kernel
theorem d_Mo_isInBox_15 : decode b_Mo_isInBox 15 = .ok (.iload_n 1, 1) := by decide +kernel
theorem d_Mo_isInBox_16 : decode b_Mo_isInBox 16 = .ok (.laload, 1) := by decide +kernel
theorem d_Mo_isInBox_17 : decode b_Mo_isInBox 17 = .ok (.aload_n 0, 1) := by decide +kernel
theorem d_Mo_isInBox_18 : decode b_Mo_isInBox 18 = .ok (.getfield 26, 3) := by decide +kernel
theorem d_Mo_isInBox_21 : decode b_Mo_isInBox 21 = .ok (.iload_n 1, 1) := by decide +kernel
theorem d_Mo_isInBox_22 : decode b_Mo_isInBox 22 = .ok (.laload, 1) := by decide +kernel
theorem d_Mo_isInBox_23 : decode b_Mo_isInBox 23 = .ok (.ldc2_w 85, 3) := by decide +kernel
theorem d_Mo_isInBox_26 : decode b_Mo_isInBox 26 = .ok (.lconst 1, 1) := by decide +kernel
theorem d_Mo_isInBox_27 : decode b_Mo_isInBox 27 = .ok (.invokestatic 87, 3) := by decide +kernel
theorem d_Mo_isInBox_30 : decode b_Mo_isInBox 30 = .ok (.ifCond .lt 29, 3) := by decide +kernel
theorem d_Mo_isInBox_33 : decode b_Mo_isInBox 33 = .ok (.aload_n 0, 1) := by decide +kernel
theorem d_Mo_isInBox_34 : decode b_Mo_isInBox 34 = .ok (.getfield 23, 3) := by decide +kernel
theorem d_Mo_isInBox_37 : decode b_Mo_isInBox 37 = .ok (.iload_n 1, 1) := by decide +kernel
theorem d_Mo_isInBox_38 : decode b_Mo_isInBox 38 = .ok (.laload, 1) := by decide +kernel
theorem d_Mo_isInBox_39 : decode b_Mo_isInBox 39 = .ok (.aload_n 0, 1) := by decide +kernel
theorem d_Mo_isInBox_40 : decode b_Mo_isInBox 40 = .ok (.getfield 26, 3) := by decide +kernel
theorem d_Mo_isInBox_43 : decode b_Mo_isInBox 43 = .ok (.iload_n 1, 1) := by decide +kernel
theorem d_Mo_isInBox_44 : decode b_Mo_isInBox 44 = .ok (.laload, 1) := by decide +kernel
theorem d_Mo_isInBox_45 : decode b_Mo_isInBox 45 = .ok (.ldc2_w 91, 3) := by decide +kernel
theorem d_Mo_isInBox_48 : decode b_Mo_isInBox 48 = .ok (.lconst 1, 1) := by decide +kernel
theorem d_Mo_isInBox_49 : decode b_Mo_isInBox 49 = .ok (.invokestatic 87, 3) := by decide +kernel
theorem d_Mo_isInBox_52 : decode b_Mo_isInBox 52 = .ok (.ifCond .gt 7, 3) := by decide +kernel
theorem d_Mo_isInBox_55 : decode b_Mo_isInBox 55 = .ok (.iconst 1, 1) := by decide +kernel
theorem d_Mo_isInBox_56 : decode b_Mo_isInBox 56 = .ok (.goto 4, 3) := by decide +kernel
theorem d_Mo_isInBox_59 : decode b_Mo_isInBox 59 = .ok (.iconst 0, 1) := by decide +kernel
theorem d_Mo_isInBox_60 : decode b_Mo_isInBox 60 = .ok (.ireturn, 1) := by decide +kernel
theorem d_Mo_isCrossed_0 : decode b_Mo_isCrossed 0 = .ok (.iconst 0, 1) := by decide +kernel
theorem d_Mo_isCrossed_1 : decode b_Mo_isCrossed 1 = .ok (.istore_n 2, 1) := by decide +kernel
theorem d_Mo_isCrossed_2 : decode b_Mo_isCrossed 2 = .ok (.iconst 0, 1) := by decide +kernel
theorem d_Mo_isCrossed_3 : decode b_Mo_isCrossed 3 = .ok (.istore_n 3, 1) := by decide +kernel
theorem d_Mo_isCrossed_4 : decode b_Mo_isCrossed 4 = .ok (.iload_n 3, 1) := by decide +kernel
theorem d_Mo_isCrossed_5 : decode b_Mo_isCrossed 5 = .ok (.aload_n 0, 1) := by decide +kernel
theorem d_Mo_isCrossed_6 : decode b_Mo_isCrossed 6 = .ok (.getfield 39, 3) := by decide +kernel
theorem d_Mo_isCrossed_9 : decode b_Mo_isCrossed 9 = .ok (.if_icmp .ge 177, 3) := by decide +kernel
theorem d_Mo_isCrossed_12 : decode b_Mo_isCrossed 12 = .ok (.aload_n 0, 1) := by decide +kernel
theorem d_Mo_isCrossed_13 : decode b_Mo_isCrossed 13 = .ok (.iload_n 3, 1) := by decide +kernel
theorem d_Mo_isCrossed_14 : decode b_Mo_isCrossed 14 = .ok (.invokevirtual 93, 3) := by decide +kernel
theorem d_Mo_isCrossed_17 : decode b_Mo_isCrossed 17 = .ok (.ifCond .ne 6, 3) := by decide +kernel
theorem d_Mo_isCrossed_20 : decode b_Mo_isCrossed 20 = .ok (.goto 160, 3) := by decide +kernel
theorem d_Mo_isCrossed_23 : decode b_Mo_isCrossed 23 = .ok (.aload_n 0, 1) := by decide +kernel
theorem d_Mo_isCrossed_24 : decode b_Mo_isCrossed 24 = .ok (.getfield 23, 3) := by decide +kernel
theorem d_Mo_isCrossed_27 : decode b_Mo_isCrossed 27 = .ok (.iload_n 3, 1) := by decide +kernel
theorem d_Mo_isCrossed_28 : decode b_Mo_isCrossed 28 = .ok (.laload, 1) := by decide +kernel
theorem d_Mo_isCrossed_29 : decode b_Mo_isCrossed 29 = .ok (.aload_n 0, 1) := by decide +kernel
theorem d_Mo_isCrossed_30 : decode b_Mo_isCrossed 30 = .ok (.getfield 26, 3) := by decide +kernel
theorem d_Mo_isCrossed_33 : decode b_Mo_isCrossed 33 = .ok (.iload_n 3, 1) := by decide +kernel
theorem d_Mo_isCrossed_34 : decode b_Mo_isCrossed 34 = .ok (.laload, 1) := by decide +kernel
theorem d_Mo_isCrossed_35 : decode b_Mo_isCrossed 35 = .ok (.ldc2_w 85, 3) := by decide +kernel
theorem d_Mo_isCrossed_38 : decode b_Mo_isCrossed 38 = .ok (.lconst 1, 1) := by decide +kernel
theorem d_Mo_isCrossed_39 : decode b_Mo_isCrossed 39 = .ok (.invokestatic 87, 3) := by decide +kernel
theorem d_Mo_isCrossed_42 : decode b_Mo_isCrossed 42 = .ok (.ifCond .eq 25, 3) := by decide +kernel
theorem d_Mo_isCrossed_45 : decode b_Mo_isCrossed 45 = .ok (.aload_n 0, 1) := by decide +kernel
theorem d_Mo_isCrossed_46 : decode b_Mo_isCrossed 46 = .ok (.getfield 23, 3) := by decide +kernel
theorem d_Mo_isCrossed_49 : decode b_Mo_isCrossed 49 = .ok (.iload_n 3, 1) := by decide +kernel
theorem d_Mo_isCrossed_50 : decode b_Mo_isCrossed 50 = .ok (.laload, 1) := by decide +kernel
theorem d_Mo_isCrossed_51 : decode b_Mo_isCrossed 51 = .ok (.aload_n 0, 1) := by decide +kernel
theorem d_Mo_isCrossed_52 : decode b_Mo_isCrossed 52 = .ok (.getfield 26, 3) := by decide +kernel
theorem d_Mo_isCrossed_55 : decode b_Mo_isCrossed 55 = .ok (.iload_n 3, 1) := by decide +kernel
theorem d_Mo_isCrossed_56 : decode b_Mo_isCrossed 56 = .ok (.laload, 1) := by decide +kernel
theorem d_Mo_isCrossed_57 : decode b_Mo_isCrossed 57 = .ok (.ldc2_w 91, 3) := by decide +kernel
theorem d_Mo_isCrossed_60 : decode b_Mo_isCrossed 60 = .ok (.lconst 1, 1) := by decide +kernel
theorem d_Mo_isCrossed_61 : decode b_Mo_isCrossed 61 = .ok (.invokestatic 87, 3) := by decide +kernel
theorem d_Mo_isCrossed_64 : decode b_Mo_isCrossed 64 = .ok (.ifCond .ne 7, 3) := by decide +kernel
theorem d_Mo_isCrossed_67 : decode b_Mo_isCrossed 67 = .ok (.iconst 1, 1) := by decide +kernel
theorem d_Mo_isCrossed_68 : decode b_Mo_isCrossed 68 = .ok (.goto 4, 3) := by decide +kernel
theorem d_Mo_isCrossed_71 : decode b_Mo_isCrossed 71 = .ok (.iconst 0, 1) := by decide +kernel
theorem d_Mo_isCrossed_72 : decode b_Mo_isCrossed 72 = .ok (.istore 4, 2) := by decide +kernel
theorem d_Mo_isCrossed_74 : decode b_Mo_isCrossed 74 = .ok (.iload_n 2, 1) := by decide +kernel
theorem d_Mo_isCrossed_75 : decode b_Mo_isCrossed 75 = .ok (.ifCond .ne 20, 3) := by decide +kernel
theorem d_Mo_isCrossed_78 : decode b_Mo_isCrossed 78 = .ok (.iload 4, 2) := by decide +kernel
theorem d_Mo_isCrossed_80 : decode b_Mo_isCrossed 80 = .ok (.ifCond .eq 19, 3) := by decide +kernel
theorem d_Mo_isCrossed_83 : decode b_Mo_isCrossed 83 = .ok (.aload_n 0, 1) := by decide +kernel
theorem d_Mo_isCrossed_84 : decode b_Mo_isCrossed 84 = .ok (.bipush 10, 2) := by decide +kernel
theorem d_Mo_isCrossed_86 : decode b_Mo_isCrossed 86 = .ok (.iload_n 1, 1) := by decide +kernel
theorem d_Mo_isCrossed_87 : decode b_Mo_isCrossed 87 = .ok (.iadd, 1) := by decide +kernel
theorem d_Mo_isCrossed_88 : decode b_Mo_isCrossed 88 = .ok (.iload_n 3, 1) := by decide +kernel
theorem d_Mo_isCrossed_89 : decode b_Mo_isCrossed 89 = .ok (.invokevirtual 74, 3) := by decide +kernel
theorem d_Mo_isCrossed_92 : decode b_Mo_isCrossed 92 = .ok (.ifCond .ne 7, 3) := by decide +kernel
theorem d_Mo_isCrossed_95 : decode b_Mo_isCrossed 95 = .ok (.iconst 1, 1) := by decide +kernel
theorem d_Mo_isCrossed_96 : decode b_Mo_isCrossed 96 = .ok (.goto 4, 3) := by decide +kernel
theorem d_Mo_isCrossed_99 : decode b_Mo_isCrossed 99 = .ok (.iconst 0, 1) := by decide +kernel
theorem d_Mo_isCrossed_100 : decode b_Mo_isCrossed 100 = .ok (.istore_n 2, 1) := by decide +kernel
theorem d_Mo_isCrossed_101 : decode b_Mo_isCrossed 101 = .ok (.iconst 0, 1) := by decide +kernel
theorem d_Mo_isCrossed_102 : decode b_Mo_isCrossed 102 = .ok (.istore 5, 2) := by decide +kernel
theorem d_Mo_isCrossed_104 : decode b_Mo_isCrossed 104 = .ok (.iload 5, 2) := by decide +kernel
theorem d_Mo_isCrossed_106 : decode b_Mo_isCrossed 106 = .ok (.iload_n 3, 1) := by decide +kernel
theorem d_Mo_isCrossed_107 : decode b_Mo_isCrossed 107 = .ok (.if_icmp .ge 73, 3) := by decide +kernel
theorem d_Mo_isCrossed_110 : decode b_Mo_isCrossed 110 = .ok (.iload_n 2, 1) := by decide +kernel
theorem d_Mo_isCrossed_111 : decode b_Mo_isCrossed 111 = .ok (.ifCond .ne 57, 3) := by decide +kernel
theorem d_Mo_isCrossed_114 : decode b_Mo_isCrossed 114 = .ok (.aload_n 0, 1) := by decide +kernel
theorem d_Mo_isCrossed_115 : decode b_Mo_isCrossed 115 = .ok (.getfield 26, 3) := by decide +kernel
theorem d_Mo_isCrossed_118 : decode b_Mo_isCrossed 118 = .ok (.iload 5, 2) := by decide +kernel
theorem d_Mo_isCrossed_120 : decode b_Mo_isCrossed 120 = .ok (.laload, 1) := by decide +kernel
theorem d_Mo_isCrossed_121 : decode b_Mo_isCrossed 121 = .ok (.lconst 0, 1) := by decide +kernel
theorem d_Mo_isCrossed_122 : decode b_Mo_isCrossed 122 = .ok (.lcmp, 1) := by decide +kernel
theorem d_Mo_isCrossed_123 : decode b_Mo_isCrossed 123 = .ok (.ifCond .le 49, 3) := by decide +kernel
theorem d_Mo_isCrossed_126 : decode b_Mo_isCrossed 126 = .ok (.aload_n 0, 1) := by decide +kernel
theorem d_Mo_isCrossed_127 : decode b_Mo_isCrossed 127 = .ok (.getfield 23, 3) := by decide +kernel
theorem d_Mo_isCrossed_130 : decode b_Mo_isCrossed 130 = .ok (.iload_n 3, 1) := by decide +kernel
theorem d_Mo_isCrossed_131 : decode b_Mo_isCrossed 131 = .ok (.laload, 1) := by decide +kernel
theorem d_Mo_isCrossed_132 : decode b_Mo_isCrossed 132 = .ok (.aload_n 0, 1) := by decide +kernel
theorem d_Mo_isCrossed_133 : decode b_Mo_isCrossed 133 = .ok (.getfield 26, 3) := by decide +kernel
theorem d_Mo_isCrossed_136 : decode b_Mo_isCrossed 136 = .ok (.iload_n 3, 1) := by decide +kernel
theorem d_Mo_isCrossed_137 : decode b_Mo_isCrossed 137 = .ok (.laload, 1) := by decide +kernel
theorem d_Mo_isCrossed_138 : decode b_Mo_isCrossed 138 = .ok (.aload_n 0, 1) := by decide +kernel
theorem d_Mo_isCrossed_139 : decode b_Mo_isCrossed 139 = .ok (.getfield 23, 3) := by decide +kernel
theorem d_Mo_isCrossed_142 : decode b_Mo_isCrossed 142 = .ok (.iload 5, 2) := by decide +kernel
theorem d_Mo_isCrossed_144 : decode b_Mo_isCrossed 144 = .ok (.laload, 1) := by decide +kernel
theorem d_Mo_isCrossed_145 : decode b_Mo_isCrossed 145 = .ok (.aload_n 0, 1) := by decide +kernel
theorem d_Mo_isCrossed_146 : decode b_Mo_isCrossed 146 = .ok (.getfield 26, 3) := by decide +kernel
theorem d_Mo_isCrossed_149 : decode b_Mo_isCrossed 149 = .ok (.iload 5, 2) := by decide +kernel
theorem d_Mo_isCrossed_151 : decode b_Mo_isCrossed 151 = .ok (.laload, 1) := by decide +kernel
theorem d_Mo_isCrossed_152 : decode b_Mo_isCrossed 152 = .ok (.invokestatic 87, 3) := by decide +kernel
theorem d_Mo_isCrossed_155 : decode b_Mo_isCrossed 155 = .ok (.ifCond .ne 17, 3) := by decide +kernel
theorem d_Mo_isCrossed_158 : decode b_Mo_isCrossed 158 = .ok (.aload_n 0, 1) := by decide +kernel
theorem d_Mo_isCrossed_159 : decode b_Mo_isCrossed 159 = .ok (.iload_n 3, 1) := by decide +kernel
theorem d_Mo_isCrossed_160 : decode b_Mo_isCrossed 160 = .ok (.iload 5, 2) := by decide +kernel
theorem d_Mo_isCrossed_162 : decode b_Mo_isCrossed 162 = .ok (.invokevirtual 74, 3) := by decide +kernel
theorem d_Mo_isCrossed_165 : decode b_Mo_isCrossed 165 = .ok (.ifCond .ne 7, 3) := by decide +kernel
theorem d_Mo_isCrossed_168 : decode b_Mo_isCrossed 168 = .ok (.iconst 1, 1) := by decide +kernel
theorem d_Mo_isCrossed_169 : decode b_Mo_isCrossed 169 = .ok (.goto 4, 3) := by decide +kernel
theorem d_Mo_isCrossed_172 : decode b_Mo_isCrossed 172 = .ok (.iconst 0, 1) := by decide +kernel
theorem d_Mo_isCrossed_173 : decode b_Mo_isCrossed 173 = .ok (.istore_n 2, 1) := by decide +kernel
theorem d_Mo_isCrossed_174 : decode b_Mo_isCrossed 174 = .ok (.iinc 5 1, 3) := by decide +kernel
theorem d_Mo_isCrossed_177 : decode b_Mo_isCrossed 177 = .ok (.goto (-73), 3) := by decide +kernel
theorem d_Mo_isCrossed_180 : decode b_Mo_isCrossed 180 = .ok (.iinc 3 1, 3) := by decide +kernel
theorem d_Mo_isCrossed_183 : decode b_Mo_isCrossed 183 = .ok (.goto (-179), 3) := by decide +kernel
theorem d_Mo_isCrossed_186 : decode b_Mo_isCrossed 186 = .ok (.iload_n 2, 1) := by decide +kernel
theorem d_Mo_isCrossed_187 : decode b_Mo_isCrossed 187 = .ok (.ireturn, 1) := by decide +kernel
theorem d_Mo_choiceBehind_0 : decode b_Mo_choiceBehind 0 = .ok (.iconst 0, 1) := by decide +kernel
theorem d_Mo_choiceBehind_1 : decode b_Mo_choiceBehind 1 = .ok (.istore 6, 2) := by decide +kernel
theorem d_Mo_choiceBehind_3 : decode b_Mo_choiceBehind 3 = .ok (.iconst 0, 1) := by decide +kernel
theorem d_Mo_choiceBehind_4 : decode b_Mo_choiceBehind 4 = .ok (.istore 7, 2) := by decide +kernel
theorem d_Mo_choiceBehind_6 : decode b_Mo_choiceBehind 6 = .ok (.iload 7, 2) := by decide +kernel
theorem d_Mo_choiceBehind_8 : decode b_Mo_choiceBehind 8 = .ok (.aload_n 0, 1) := by decide +kernel
theorem d_Mo_choiceBehind_9 : decode b_Mo_choiceBehind 9 = .ok (.getfield 39, 3) := by decide +kernel
theorem d_Mo_choiceBehind_12 : decode b_Mo_choiceBehind 12 = .ok (.if_icmp .ge 132, 3) := by decide +kernel
theorem d_Mo_choiceBehind_15 : decode b_Mo_choiceBehind 15 = .ok (.aload_n 0, 1) := by decide +kernel
theorem d_Mo_choiceBehind_16 : decode b_Mo_choiceBehind 16 = .ok (.getfield 26, 3) := by decide +kernel
theorem d_Mo_choiceBehind_19 : decode b_Mo_choiceBehind 19 = .ok (.iload 7, 2) := by decide +kernel
theorem d_Mo_choiceBehind_21 : decode b_Mo_choiceBehind 21 = .ok (.laload, 1) := by decide +kernel
theorem d_Mo_choiceBehind_22 : decode b_Mo_choiceBehind 22 = .ok (.lconst 0, 1) := by decide +kernel
theorem d_Mo_choiceBehind_23 : decode b_Mo_choiceBehind 23 = .ok (.lcmp, 1) := by decide +kernel
theorem d_Mo_choiceBehind_24 : decode b_Mo_choiceBehind 24 = .ok (.ifCond .le 30, 3) := by decide +kernel
theorem d_Mo_choiceBehind_27 : decode b_Mo_choiceBehind 27 = .ok (.aload_n 0, 1) := by decide +kernel
theorem d_Mo_choiceBehind_28 : decode b_Mo_choiceBehind 28 = .ok (.getfield 23, 3) := by decide +kernel
theorem d_Mo_choiceBehind_31 : decode b_Mo_choiceBehind 31 = .ok (.iload 7, 2) := by decide +kernel
theorem d_Mo_choiceBehind_33 : decode b_Mo_choiceBehind 33 = .ok (.laload, 1) := by decide +kernel
theorem d_Mo_choiceBehind_34 : decode b_Mo_choiceBehind 34 = .ok (.aload_n 0, 1) := by decide +kernel
theorem d_Mo_choiceBehind_35 : decode b_Mo_choiceBehind 35 = .ok (.getfield 26, 3) := by decide +kernel
theorem d_Mo_choiceBehind_38 : decode b_Mo_choiceBehind 38 = .ok (.iload 7, 2) := by decide +kernel
theorem d_Mo_choiceBehind_40 : decode b_Mo_choiceBehind 40 = .ok (.laload, 1) := by decide +kernel
theorem d_Mo_choiceBehind_41 : decode b_Mo_choiceBehind 41 = .ok (.lload_n 2, 1) := by decide +kernel
theorem d_Mo_choiceBehind_42 : decode b_Mo_choiceBehind 42 = .ok (.lload 4, 2) := by decide +kernel
theorem d_Mo_choiceBehind_44 : decode b_Mo_choiceBehind 44 = .ok (.invokestatic 87, 3) := by decide +kernel
theorem d_Mo_choiceBehind_47 : decode b_Mo_choiceBehind 47 = .ok (.ifCond .gt 7, 3) := by decide +kernel
theorem d_Mo_choiceBehind_50 : decode b_Mo_choiceBehind 50 = .ok (.iconst 1, 1) := by decide +kernel
theorem d_Mo_choiceBehind_51 : decode b_Mo_choiceBehind 51 = .ok (.goto 4, 3) := by decide +kernel
theorem d_Mo_choiceBehind_54 : decode b_Mo_choiceBehind 54 = .ok (.iconst 0, 1) := by decide +kernel
theorem d_Mo_choiceBehind_55 : decode b_Mo_choiceBehind 55 = .ok (.istore 8, 2) := by decide +kernel
theorem d_Mo_choiceBehind_57 : decode b_Mo_choiceBehind 57 = .ok (.aload_n 0, 1) := by decide +kernel
theorem d_Mo_choiceBehind_58 : decode b_Mo_choiceBehind 58 = .ok (.getfield 26, 3) := by decide +kernel
theorem d_Mo_choiceBehind_61 : decode b_Mo_choiceBehind 61 = .ok (.iload 7, 2) := by decide +kernel
theorem d_Mo_choiceBehind_63 : decode b_Mo_choiceBehind 63 = .ok (.laload, 1) := by decide +kernel
theorem d_Mo_choiceBehind_64 : decode b_Mo_choiceBehind 64 = .ok (.lconst 0, 1) := by decide +kernel
theorem d_Mo_choiceBehind_65 : decode b_Mo_choiceBehind 65 = .ok (.lcmp, 1) := by decide +kernel
theorem d_Mo_choiceBehind_66 : decode b_Mo_choiceBehind 66 = .ok (.ifCond .ne 23, 3) := by decide +kernel
theorem d_Mo_choiceBehind_69 : decode b_Mo_choiceBehind 69 = .ok (.aload_n 0, 1) := by decide +kernel
theorem d_Mo_choiceBehind_70 : decode b_Mo_choiceBehind 70 = .ok (.getfield 20, 3) := by decide +kernel
theorem d_Mo_choiceBehind_73 : decode b_Mo_choiceBehind 73 = .ok (.iload 7, 2) := by decide +kernel
theorem d_Mo_choiceBehind_75 : decode b_Mo_choiceBehind 75 = .ok (.laload, 1) := by decide +kernel
theorem d_Mo_choiceBehind_76 : decode b_Mo_choiceBehind 76 = .ok (.lconst 0, 1) := by decide +kernel
theorem d_Mo_choiceBehind_77 : decode b_Mo_choiceBehind 77 = .ok (.lcmp, 1) := by decide +kernel
theorem d_Mo_choiceBehind_78 : decode b_Mo_choiceBehind 78 = .ok (.ifCond .ge 7, 3) := by decide +kernel
theorem d_Mo_choiceBehind_81 : decode b_Mo_choiceBehind 81 = .ok (.iconst 1, 1) := by decide +kernel
theorem d_Mo_choiceBehind_82 : decode b_Mo_choiceBehind 82 = .ok (.goto 36, 3) := by decide +kernel
theorem d_Mo_choiceBehind_85 : decode b_Mo_choiceBehind 85 = .ok (.iconst 0, 1) := by decide +kernel
theorem d_Mo_choiceBehind_86 : decode b_Mo_choiceBehind 86 = .ok (.goto 32, 3) := by decide +kernel
theorem d_Mo_choiceBehind_89 : decode b_Mo_choiceBehind 89 = .ok (.aload_n 0, 1) := by decide +kernel
theorem d_Mo_choiceBehind_90 : decode b_Mo_choiceBehind 90 = .ok (.getfield 7, 3) := by decide +kernel
theorem d_Mo_choiceBehind_93 : decode b_Mo_choiceBehind 93 = .ok (.iconst 3, 1) := by decide +kernel
theorem d_Mo_choiceBehind_94 : decode b_Mo_choiceBehind 94 = .ok (.iload 7, 2) := by decide +kernel
theorem d_Mo_choiceBehind_96 : decode b_Mo_choiceBehind 96 = .ok (.imul, 1) := by decide +kernel
theorem d_Mo_choiceBehind_97 : decode b_Mo_choiceBehind 97 = .ok (.iload_n 1, 1) := by decide +kernel
theorem d_Mo_choiceBehind_98 : decode b_Mo_choiceBehind 98 = .ok (.iadd, 1) := by decide +kernel
theorem d_Mo_choiceBehind_99 : decode b_Mo_choiceBehind 99 = .ok (.iaload, 1) := by decide +kernel
theorem d_Mo_choiceBehind_100 : decode b_Mo_choiceBehind 100 = .ok (.ifCond .le 7, 3) := by decide +kernel
theorem d_Mo_choiceBehind_103 : decode b_Mo_choiceBehind 103 = .ok (.iconst 1, 1) := by decide +kernel
theorem d_Mo_choiceBehind_104 : decode b_Mo_choiceBehind 104 = .ok (.goto 4, 3) := by decide +kernel
theorem d_Mo_choiceBehind_107 : decode b_Mo_choiceBehind 107 = .ok (.iconst 0, 1) := by decide +kernel
theorem d_Mo_choiceBehind_108 : decode b_Mo_choiceBehind 108 = .ok (.iload 8, 2) := by decide +kernel
theorem d_Mo_choiceBehind_110 : decode b_Mo_choiceBehind 110 = .ok (.if_icmp .eq 7, 3) := by decide +kernel
theorem d_Mo_choiceBehind_113 : decode b_Mo_choiceBehind 113 = .ok (.iconst 1, 1) := by decide +kernel
theorem d_Mo_choiceBehind_114 : decode b_Mo_choiceBehind 114 = .ok (.goto 4, 3) := by decide +kernel
theorem d_Mo_choiceBehind_117 : decode b_Mo_choiceBehind 117 = .ok (.iconst 0, 1) := by decide +kernel
theorem d_Mo_choiceBehind_118 : decode b_Mo_choiceBehind 118 = .ok (.istore 9, 2) := by decide +kernel
theorem d_Mo_choiceBehind_120 : decode b_Mo_choiceBehind 120 = .ok (.iload 6, 2) := by decide +kernel
theorem d_Mo_choiceBehind_122 : decode b_Mo_choiceBehind 122 = .ok (.iload 9, 2) := by decide +kernel
theorem d_Mo_choiceBehind_124 : decode b_Mo_choiceBehind 124 = .ok (.ifCond .eq 10, 3) := by decide +kernel
theorem d_Mo_choiceBehind_127 : decode b_Mo_choiceBehind 127 = .ok (.iconst 1, 1) := by decide +kernel
theorem d_Mo_choiceBehind_128 : decode b_Mo_choiceBehind 128 = .ok (.iload 7, 2) := by decide +kernel
theorem d_Mo_choiceBehind_130 : decode b_Mo_choiceBehind 130 = .ok (.ishl, 1) := by decide +kernel
theorem d_Mo_choiceBehind_131 : decode b_Mo_choiceBehind 131 = .ok (.goto 4, 3) := by decide +kernel
theorem d_Mo_choiceBehind_134 : decode b_Mo_choiceBehind 134 = .ok (.iconst 0, 1) := by decide +kernel
theorem d_Mo_choiceBehind_135 : decode b_Mo_choiceBehind 135 = .ok (.iadd, 1) := by decide +kernel
theorem d_Mo_choiceBehind_136 : decode b_Mo_choiceBehind 136 = .ok (.istore 6, 2) := by decide +kernel
theorem d_Mo_choiceBehind_138 : decode b_Mo_choiceBehind 138 = .ok (.iinc 7 1, 3) := by decide +kernel
theorem d_Mo_choiceBehind_141 : decode b_Mo_choiceBehind 141 = .ok (.goto (-135), 3) := by decide +kernel
theorem d_Mo_choiceBehind_144 : decode b_Mo_choiceBehind 144 = .ok (.iload 6, 2) := by decide +kernel
theorem d_Mo_choiceBehind_146 : decode b_Mo_choiceBehind 146 = .ok (.ireturn, 1) := by decide +kernel
theorem d_Mo_enters_0 : decode b_Mo_enters 0 = .ok (.aload_n 0, 1) := by decide +kernel
theorem d_Mo_enters_1 : decode b_Mo_enters 1 = .ok (.iload_n 1, 1) := by decide +kernel
theorem d_Mo_enters_2 : decode b_Mo_enters 2 = .ok (.ifCond .lt 28, 3) := by decide +kernel
theorem d_Mo_enters_5 : decode b_Mo_enters 5 = .ok (.iload_n 1, 1) := by decide +kernel
theorem d_Mo_enters_6 : decode b_Mo_enters 6 = .ok (.iconst 2, 1) := by decide +kernel
theorem d_Mo_enters_7 : decode b_Mo_enters 7 = .ok (.if_icmp .gt 23, 3) := by decide +kernel
theorem d_Mo_enters_10 : decode b_Mo_enters 10 = .ok (.iload_n 2, 1) := by decide +kernel
theorem d_Mo_enters_11 : decode b_Mo_enters 11 = .ok (.sipush 999, 3) := by decide +kernel
theorem d_Mo_enters_14 : decode b_Mo_enters 14 = .ok (.invokestatic 34, 3) := by decide +kernel
theorem d_Mo_enters_17 : decode b_Mo_enters 17 = .ok (.ifCond .eq 13, 3) := by decide +kernel
theorem d_Mo_enters_20 : decode b_Mo_enters 20 = .ok (.iload_n 3, 1) := by decide +kernel
theorem d_Mo_enters_21 : decode b_Mo_enters 21 = .ok (.sipush 999, 3) := by decide +kernel
theorem d_Mo_enters_24 : decode b_Mo_enters 24 = .ok (.invokestatic 34, 3) := by decide +kernel
theorem d_Mo_enters_27 : decode b_Mo_enters 27 = .ok (.ifCond .ne 7, 3) := by decide +kernel
theorem d_Mo_enters_30 : decode b_Mo_enters 30 = .ok (.iconst 1, 1) := by decide +kernel
theorem d_Mo_enters_31 : decode b_Mo_enters 31 = .ok (.goto 15, 3) := by decide +kernel
theorem d_Mo_enters_34 : decode b_Mo_enters 34 = .ok (.aload_n 0, 1) := by decide +kernel
theorem d_Mo_enters_35 : decode b_Mo_enters 35 = .ok (.getfield 42, 3) := by decide +kernel
theorem d_Mo_enters_38 : decode b_Mo_enters 38 = .ok (.ifCond .ne 7, 3) := by decide +kernel
theorem d_Mo_enters_41 : decode b_Mo_enters 41 = .ok (.iconst 2, 1) := by decide +kernel
theorem d_Mo_enters_42 : decode b_Mo_enters 42 = .ok (.goto 4, 3) := by decide +kernel
theorem d_Mo_enters_45 : decode b_Mo_enters 45 = .ok (.iconst 0, 1) := by decide +kernel
theorem d_Mo_enters_46 : decode b_Mo_enters 46 = .ok (.putfield 29, 3) := by decide +kernel
theorem d_Mo_enters_49 : decode b_Mo_enters 49 = .ok (.aload_n 0, 1) := by decide +kernel
theorem d_Mo_enters_50 : decode b_Mo_enters 50 = .ok (.getfield 29, 3) := by decide +kernel
theorem d_Mo_enters_53 : decode b_Mo_enters 53 = .ok (.ifCond .le 5, 3) := by decide +kernel
theorem d_Mo_enters_56 : decode b_Mo_enters 56 = .ok (.iconst 0, 1) := by decide +kernel
theorem d_Mo_enters_57 : decode b_Mo_enters 57 = .ok (.ireturn, 1) := by decide +kernel
theorem d_Mo_enters_58 : decode b_Mo_enters 58 = .ok (.aload_n 0, 1) := by decide +kernel
theorem d_Mo_enters_59 : decode b_Mo_enters 59 = .ok (.iload_n 1, 1) := by decide +kernel
theorem d_Mo_enters_60 : decode b_Mo_enters 60 = .ok (.iload_n 2, 1) := by decide +kernel
theorem d_Mo_enters_61 : decode b_Mo_enters 61 = .ok (.iload_n 3, 1) := by decide +kernel
theorem d_Mo_enters_62 : decode b_Mo_enters 62 = .ok (.invokevirtual 96, 3) := by decide +kernel
theorem d_Mo_enters_65 : decode b_Mo_enters 65 = .ok (.ifCond .eq 11, 3) := by decide +kernel
theorem d_Mo_enters_68 : decode b_Mo_enters 68 = .ok (.aload_n 0, 1) := by decide +kernel
theorem d_Mo_enters_69 : decode b_Mo_enters 69 = .ok (.iload_n 1, 1) := by decide +kernel
theorem d_Mo_enters_70 : decode b_Mo_enters 70 = .ok (.invokevirtual 100, 3) := by decide +kernel
theorem d_Mo_enters_73 : decode b_Mo_enters 73 = .ok (.ifCond .eq 10, 3) := by decide +kernel
theorem d_Mo_enters_76 : decode b_Mo_enters 76 = .ok (.aload_n 0, 1) := by decide +kernel
theorem d_Mo_enters_77 : decode b_Mo_enters 77 = .ok (.iconst 3, 1) := by decide +kernel
theorem d_Mo_enters_78 : decode b_Mo_enters 78 = .ok (.putfield 29, 3) := by decide +kernel
theorem d_Mo_enters_81 : decode b_Mo_enters 81 = .ok (.iconst 0, 1) := by decide +kernel
theorem d_Mo_enters_82 : decode b_Mo_enters 82 = .ok (.ireturn, 1) := by decide +kernel
theorem d_Mo_enters_83 : decode b_Mo_enters 83 = .ok (.ldc2_w 85, 3) := by decide +kernel
theorem d_Mo_enters_86 : decode b_Mo_enters 86 = .ok (.lstore 4, 2) := by decide +kernel
theorem d_Mo_enters_88 : decode b_Mo_enters 88 = .ok (.lconst 1, 1) := by decide +kernel
theorem d_Mo_enters_89 : decode b_Mo_enters 89 = .ok (.lstore 6, 2) := by decide +kernel
theorem d_Mo_enters_91 : decode b_Mo_enters 91 = .ok (.iconst 0, 1) := by decide +kernel
theorem d_Mo_enters_92 : decode b_Mo_enters 92 = .ok (.istore 8, 2) := by decide +kernel
theorem d_Mo_enters_94 : decode b_Mo_enters 94 = .ok (.iconst 0, 1) := by decide +kernel
theorem d_Mo_enters_95 : decode b_Mo_enters 95 = .ok (.istore 9, 2) := by decide +kernel
theorem d_Mo_enters_97 : decode b_Mo_enters 97 = .ok (.lload 4, 2) := by decide +kernel
theorem d_Mo_enters_99 : decode b_Mo_enters 99 = .ok (.lload 6, 2) := by decide +kernel
theorem d_Mo_enters_101 : decode b_Mo_enters 101 = .ok (.ldc2_w 91, 3) := by decide +kernel
theorem d_Mo_enters_104 : decode b_Mo_enters 104 = .ok (.lconst 1, 1) := by decide +kernel
theorem d_Mo_enters_105 : decode b_Mo_enters 105 = .ok (.invokestatic 87, 3) := by decide +kernel
theorem d_Mo_enters_108 : decode b_Mo_enters 108 = .ok (.ifCond .ge 157, 3) := by decide +kernel
theorem d_Mo_enters_111 : decode b_Mo_enters 111 = .ok (.aload_n 0, 1) := by decide +kernel
theorem d_Mo_enters_112 : decode b_Mo_enters 112 = .ok (.aload_n 0, 1) := by decide +kernel
theorem d_Mo_enters_113 : decode b_Mo_enters 113 = .ok (.iload_n 1, 1) := by decide +kernel
theorem d_Mo_enters_114 : decode b_Mo_enters 114 = .ok (.lload 4, 2) := by decide +kernel
theorem d_Mo_enters_116 : decode b_Mo_enters 116 = .ok (.lload 6, 2) := by decide +kernel
theorem d_Mo_enters_118 : decode b_Mo_enters 118 = .ok (.invokevirtual 103, 3) := by decide +kernel
theorem d_Mo_enters_121 : decode b_Mo_enters 121 = .ok (.invokevirtual 67, 3) := by decide +kernel
theorem d_Mo_enters_124 : decode b_Mo_enters 124 = .ok (.istore 10, 2) := by decide +kernel
theorem d_Mo_enters_126 : decode b_Mo_enters 126 = .ok (.iload 9, 2) := by decide +kernel
theorem d_Mo_enters_128 : decode b_Mo_enters 128 = .ok (.iload 10, 2) := by decide +kernel
theorem d_Mo_enters_130 : decode b_Mo_enters 130 = .ok (.ifCond .eq 12, 3) := by decide +kernel
theorem d_Mo_enters_133 : decode b_Mo_enters 133 = .ok (.iload 8, 2) := by decide +kernel
theorem d_Mo_enters_135 : decode b_Mo_enters 135 = .ok (.ifCond .ne 7, 3) := by decide +kernel
theorem d_Mo_enters_138 : decode b_Mo_enters 138 = .ok (.iconst 1, 1) := by decide +kernel
theorem d_Mo_enters_139 : decode b_Mo_enters 139 = .ok (.goto 4, 3) := by decide +kernel
theorem d_Mo_enters_142 : decode b_Mo_enters 142 = .ok (.iconst 0, 1) := by decide +kernel
theorem d_Mo_enters_143 : decode b_Mo_enters 143 = .ok (.iadd, 1) := by decide +kernel
theorem d_Mo_enters_144 : decode b_Mo_enters 144 = .ok (.istore 9, 2) := by decide +kernel
theorem d_Mo_enters_146 : decode b_Mo_enters 146 = .ok (.iload 10, 2) := by decide +kernel
theorem d_Mo_enters_148 : decode b_Mo_enters 148 = .ok (.istore 8, 2) := by decide +kernel
theorem d_Mo_enters_150 : decode b_Mo_enters 150 = .ok (.ldc2_w 91, 3) := by decide +kernel
theorem d_Mo_enters_153 : decode b_Mo_enters 153 = .ok (.lstore 11, 2) := by decide +kernel
theorem d_Mo_enters_155 : decode b_Mo_enters 155 = .ok (.lconst 1, 1) := by decide +kernel
theorem d_Mo_enters_156 : decode b_Mo_enters 156 = .ok (.lstore 13, 2) := by decide +kernel
theorem d_Mo_enters_158 : decode b_Mo_enters 158 = .ok (.iconst 0, 1) := by decide +kernel
theorem d_Mo_enters_159 : decode b_Mo_enters 159 = .ok (.istore 15, 2) := by decide +kernel
theorem d_Mo_enters_161 : decode b_Mo_enters 161 = .ok (.iload 15, 2) := by decide +kernel
theorem d_Mo_enters_163 : decode b_Mo_enters 163 = .ok (.aload_n 0, 1) := by decide +kernel
theorem d_Mo_enters_164 : decode b_Mo_enters 164 = .ok (.getfield 39, 3) := by decide +kernel
theorem d_Mo_enters_167 : decode b_Mo_enters 167 = .ok (.if_icmp .ge 87, 3) := by decide +kernel
theorem d_Mo_enters_170 : decode b_Mo_enters 170 = .ok (.aload_n 0, 1) := by decide +kernel
theorem d_Mo_enters_171 : decode b_Mo_enters 171 = .ok (.getfield 26, 3) := by decide +kernel
theorem d_Mo_enters_174 : decode b_Mo_enters 174 = .ok (.iload 15, 2) := by decide +kernel
theorem d_Mo_enters_176 : decode b_Mo_enters 176 = .ok (.laload, 1) := by decide +kernel
theorem d_Mo_enters_177 : decode b_Mo_enters 177 = .ok (.lconst 0, 1) := by decide +kernel
theorem d_Mo_enters_178 : decode b_Mo_enters 178 = .ok (.lcmp, 1) := by decide +kernel
theorem d_Mo_enters_179 : decode b_Mo_enters 179 = .ok (.ifCond .le 69, 3) := by decide +kernel
theorem d_Mo_enters_182 : decode b_Mo_enters 182 = .ok (.aload_n 0, 1) := by decide +kernel
theorem d_Mo_enters_183 : decode b_Mo_enters 183 = .ok (.getfield 23, 3) := by decide +kernel
theorem d_Mo_enters_186 : decode b_Mo_enters 186 = .ok (.iload 15, 2) := by decide +kernel
theorem d_Mo_enters_188 : decode b_Mo_enters 188 = .ok (.laload, 1) := by decide +kernel
theorem d_Mo_enters_189 : decode b_Mo_enters 189 = .ok (.aload_n 0, 1) := by decide +kernel
theorem d_Mo_enters_190 : decode b_Mo_enters 190 = .ok (.getfield 26, 3) := by decide +kernel
theorem d_Mo_enters_193 : decode b_Mo_enters 193 = .ok (.iload 15, 2) := by decide +kernel
theorem d_Mo_enters_195 : decode b_Mo_enters 195 = .ok (.laload, 1) := by decide +kernel
theorem d_Mo_enters_196 : decode b_Mo_enters 196 = .ok (.lload 4, 2) := by decide +kernel
theorem d_Mo_enters_198 : decode b_Mo_enters 198 = .ok (.lload 6, 2) := by decide +kernel
theorem d_Mo_enters_200 : decode b_Mo_enters 200 = .ok (.invokestatic 87, 3) := by decide +kernel
theorem d_Mo_enters_203 : decode b_Mo_enters 203 = .ok (.ifCond .le 45, 3) := by decide +kernel
theorem d_Mo_enters_206 : decode b_Mo_enters 206 = .ok (.aload_n 0, 1) := by decide +kernel
theorem d_Mo_enters_207 : decode b_Mo_enters 207 = .ok (.getfield 23, 3) := by decide +kernel
theorem d_Mo_enters_210 : decode b_Mo_enters 210 = .ok (.iload 15, 2) := by decide +kernel
theorem d_Mo_enters_212 : decode b_Mo_enters 212 = .ok (.laload, 1) := by decide +kernel
theorem d_Mo_enters_213 : decode b_Mo_enters 213 = .ok (.aload_n 0, 1) := by decide +kernel
theorem d_Mo_enters_214 : decode b_Mo_enters 214 = .ok (.getfield 26, 3) := by decide +kernel
theorem d_Mo_enters_217 : decode b_Mo_enters 217 = .ok (.iload 15, 2) := by decide +kernel
theorem d_Mo_enters_219 : decode b_Mo_enters 219 = .ok (.laload, 1) := by decide +kernel
theorem d_Mo_enters_220 : decode b_Mo_enters 220 = .ok (.lload 11, 2) := by decide +kernel
theorem d_Mo_enters_222 : decode b_Mo_enters 222 = .ok (.lload 13, 2) := by decide +kernel
theorem d_Mo_enters_224 : decode b_Mo_enters 224 = .ok (.invokestatic 87, 3) := by decide +kernel
theorem d_Mo_enters_227 : decode b_Mo_enters 227 = .ok (.ifCond .ge 21, 3) := by decide +kernel
theorem d_Mo_enters_230 : decode b_Mo_enters 230 = .ok (.aload_n 0, 1) := by decide +kernel
theorem d_Mo_enters_231 : decode b_Mo_enters 231 = .ok (.getfield 23, 3) := by decide +kernel
theorem d_Mo_enters_234 : decode b_Mo_enters 234 = .ok (.iload 15, 2) := by decide +kernel
theorem d_Mo_enters_236 : decode b_Mo_enters 236 = .ok (.laload, 1) := by decide +kernel
theorem d_Mo_enters_237 : decode b_Mo_enters 237 = .ok (.lstore 11, 2) := by decide +kernel
theorem d_Mo_enters_239 : decode b_Mo_enters 239 = .ok (.aload_n 0, 1) := by decide +kernel
theorem d_Mo_enters_240 : decode b_Mo_enters 240 = .ok (.getfield 26, 3) := by decide +kernel
theorem d_Mo_enters_243 : decode b_Mo_enters 243 = .ok (.iload 15, 2) := by decide +kernel
theorem d_Mo_enters_245 : decode b_Mo_enters 245 = .ok (.laload, 1) := by decide +kernel
theorem d_Mo_enters_246 : decode b_Mo_enters 246 = .ok (.lstore 13, 2) := by decide +kernel
theorem d_Mo_enters_248 : decode b_Mo_enters 248 = .ok (.iinc 15 1, 3) := by decide +kernel
theorem d_Mo_enters_251 : decode b_Mo_enters 251 = .ok (.goto (-90), 3) := by decide +kernel
theorem d_Mo_enters_254 : decode b_Mo_enters 254 = .ok (.lload 11, 2) := by decide +kernel
theorem d_Mo_enters_256 : decode b_Mo_enters 256 = .ok (.lstore 4, 2) := by decide +kernel
theorem d_Mo_enters_258 : decode b_Mo_enters 258 = .ok (.lload 13, 2) := by decide +kernel
theorem d_Mo_enters_260 : decode b_Mo_enters 260 = .ok (.lstore 6, 2) := by decide +kernel
theorem d_Mo_enters_262 : decode b_Mo_enters 262 = .ok (.goto (-165), 3) := by decide +kernel
theorem d_Mo_enters_265 : decode b_Mo_enters 265 = .ok (.iload 9, 2) := by decide +kernel
theorem d_Mo_enters_267 : decode b_Mo_enters 267 = .ok (.ireturn, 1) := by decide +kernel
