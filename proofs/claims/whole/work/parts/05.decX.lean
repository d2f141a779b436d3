/-! Decode rows of X. -/
theorem d_X_init_0 : decode b_X_init 0 = .ok (.aload_n 0, 1) := by decide +kernel
theorem d_X_init_1 : decode b_X_init 1 = .ok (.invokespecial 1, 3) := by decide +kernel
theorem d_X_init_4 : decode b_X_init 4 = .ok (.aload_n 0, 1) := by decide +kernel
theorem d_X_init_5 : decode b_X_init 5 = .ok (.new 7, 3) := by decide +kernel
theorem d_X_init_8 : decode b_X_init 8 = .ok (.dup, 1) := by decide +kernel
theorem d_X_init_9 : decode b_X_init 9 = .ok (.invokespecial 9, 3) := by decide +kernel
theorem d_X_init_12 : decode b_X_init 12 = .ok (.putfield 10, 3) := by decide +kernel
theorem d_X_init_15 : decode b_X_init 15 = .ok (.aload_n 0, 1) := by decide +kernel
theorem d_X_init_16 : decode b_X_init 16 = .ok (.bipush 6, 2) := by decide +kernel
theorem d_X_init_18 : decode b_X_init 18 = .ok (.anewarray 16, 3) := by decide +kernel
theorem d_X_init_21 : decode b_X_init 21 = .ok (.putfield 18, 3) := by decide +kernel
theorem d_X_init_24 : decode b_X_init 24 = .ok (.iconst 0, 1) := by decide +kernel
theorem d_X_init_25 : decode b_X_init 25 = .ok (.istore_n 1, 1) := by decide +kernel
theorem d_X_init_26 : decode b_X_init 26 = .ok (.iload_n 1, 1) := by decide +kernel
theorem d_X_init_27 : decode b_X_init 27 = .ok (.bipush 6, 2) := by decide +kernel
theorem d_X_init_29 : decode b_X_init 29 = .ok (.if_icmp .ge 22, 3) := by decide +kernel
theorem d_X_init_32 : decode b_X_init 32 = .ok (.aload_n 0, 1) := by decide +kernel
theorem d_X_init_33 : decode b_X_init 33 = .ok (.getfield 18, 3) := by decide +kernel
theorem d_X_init_36 : decode b_X_init 36 = .ok (.iload_n 1, 1) := by decide +kernel
theorem d_X_init_37 : decode b_X_init 37 = .ok (.new 16, 3) := by decide +kernel
theorem d_X_init_40 : decode b_X_init 40 = .ok (.dup, 1) := by decide +kernel
theorem d_X_init_41 : decode b_X_init 41 = .ok (.invokespecial 22, 3) := by decide +kernel
theorem d_X_init_44 : decode b_X_init 44 = .ok (.aastore, 1) := by decide +kernel
theorem d_X_init_45 : decode b_X_init 45 = .ok (.iinc 1 1, 3) := by decide +kernel
theorem d_X_init_48 : decode b_X_init 48 = .ok (.goto (-22), 3) := by decide +kernel
theorem d_X_init_51 : decode b_X_init 51 = .ok (.aload_n 0, 1) := by decide +kernel
theorem d_X_init_52 : decode b_X_init 52 = .ok (.new 23, 3) := by decide +kernel
theorem d_X_init_55 : decode b_X_init 55 = .ok (.dup, 1) := by decide +kernel
theorem d_X_init_56 : decode b_X_init 56 = .ok (.invokespecial 25, 3) := by decide +kernel
theorem d_X_init_59 : decode b_X_init 59 = .ok (.putfield 26, 3) := by decide +kernel
theorem d_X_init_62 : decode b_X_init 62 = .ok (.aload_n 0, 1) := by decide +kernel
theorem d_X_init_63 : decode b_X_init 63 = .ok (.iconst 0, 1) := by decide +kernel
theorem d_X_init_64 : decode b_X_init 64 = .ok (.putfield 30, 3) := by decide +kernel
theorem d_X_init_67 : decode b_X_init 67 = .ok (.return_, 1) := by decide +kernel
theorem d_X_plane_0 : decode b_X_plane 0 = .ok (.iload_n 1, 1) := by decide +kernel
theorem d_X_plane_1 : decode b_X_plane 1 = .ok (.ifCond .ne 21, 3) := by decide +kernel
theorem d_X_plane_4 : decode b_X_plane 4 = .ok (.iload_n 2, 1) := by decide +kernel
theorem d_X_plane_5 : decode b_X_plane 5 = .ok (.ifCond .ne 17, 3) := by decide +kernel
theorem d_X_plane_8 : decode b_X_plane 8 = .ok (.iload_n 3, 1) := by decide +kernel
theorem d_X_plane_9 : decode b_X_plane 9 = .ok (.ifCond .ne 13, 3) := by decide +kernel
theorem d_X_plane_12 : decode b_X_plane 12 = .ok (.new 34, 3) := by decide +kernel
theorem d_X_plane_15 : decode b_X_plane 15 = .ok (.dup, 1) := by decide +kernel
theorem d_X_plane_16 : decode b_X_plane 16 = .ok (.ldc 36, 2) := by decide +kernel
theorem d_X_plane_18 : decode b_X_plane 18 = .ok (.invokespecial 38, 3) := by decide +kernel
theorem d_X_plane_21 : decode b_X_plane 21 = .ok (.athrow, 1) := by decide +kernel
theorem d_X_plane_22 : decode b_X_plane 22 = .ok (.iload_n 1, 1) := by decide +kernel
theorem d_X_plane_23 : decode b_X_plane 23 = .ok (.ldc 41, 2) := by decide +kernel
theorem d_X_plane_25 : decode b_X_plane 25 = .ok (.invokestatic 42, 3) := by decide +kernel
theorem d_X_plane_28 : decode b_X_plane 28 = .ok (.ifCond .ne 21, 3) := by decide +kernel
theorem d_X_plane_31 : decode b_X_plane 31 = .ok (.iload_n 2, 1) := by decide +kernel
theorem d_X_plane_32 : decode b_X_plane 32 = .ok (.ldc 41, 2) := by decide +kernel
theorem d_X_plane_34 : decode b_X_plane 34 = .ok (.invokestatic 42, 3) := by decide +kernel
theorem d_X_plane_37 : decode b_X_plane 37 = .ok (.ifCond .ne 12, 3) := by decide +kernel
theorem d_X_plane_40 : decode b_X_plane 40 = .ok (.iload_n 3, 1) := by decide +kernel
theorem d_X_plane_41 : decode b_X_plane 41 = .ok (.ldc 41, 2) := by decide +kernel
theorem d_X_plane_43 : decode b_X_plane 43 = .ok (.invokestatic 42, 3) := by decide +kernel
theorem d_X_plane_46 : decode b_X_plane 46 = .ok (.ifCond .eq 13, 3) := by decide +kernel
theorem d_X_plane_49 : decode b_X_plane 49 = .ok (.new 34, 3) := by decide +kernel
theorem d_X_plane_52 : decode b_X_plane 52 = .ok (.dup, 1) := by decide +kernel
theorem d_X_plane_53 : decode b_X_plane 53 = .ok (.ldc 46, 2) := by decide +kernel
theorem d_X_plane_55 : decode b_X_plane 55 = .ok (.invokespecial 38, 3) := by decide +kernel
theorem d_X_plane_58 : decode b_X_plane 58 = .ok (.athrow, 1) := by decide +kernel
theorem d_X_plane_59 : decode b_X_plane 59 = .ok (.iload 4, 2) := by decide +kernel
theorem d_X_plane_61 : decode b_X_plane 61 = .ok (.ldc 48, 2) := by decide +kernel
theorem d_X_plane_63 : decode b_X_plane 63 = .ok (.invokestatic 42, 3) := by decide +kernel
theorem d_X_plane_66 : decode b_X_plane 66 = .ok (.ifCond .eq 13, 3) := by decide +kernel
theorem d_X_plane_69 : decode b_X_plane 69 = .ok (.new 34, 3) := by decide +kernel
theorem d_X_plane_72 : decode b_X_plane 72 = .ok (.dup, 1) := by decide +kernel
theorem d_X_plane_73 : decode b_X_plane 73 = .ok (.ldc 49, 2) := by decide +kernel
theorem d_X_plane_75 : decode b_X_plane 75 = .ok (.invokespecial 38, 3) := by decide +kernel
theorem d_X_plane_78 : decode b_X_plane 78 = .ok (.athrow, 1) := by decide +kernel
theorem d_X_plane_79 : decode b_X_plane 79 = .ok (.aload_n 0, 1) := by decide +kernel
theorem d_X_plane_80 : decode b_X_plane 80 = .ok (.getfield 10, 3) := by decide +kernel
theorem d_X_plane_83 : decode b_X_plane 83 = .ok (.invokevirtual 51, 3) := by decide +kernel
theorem d_X_plane_86 : decode b_X_plane 86 = .ok (.bipush 8, 2) := by decide +kernel
theorem d_X_plane_88 : decode b_X_plane 88 = .ok (.if_icmp .lt 13, 3) := by decide +kernel
theorem d_X_plane_91 : decode b_X_plane 91 = .ok (.new 55, 3) := by decide +kernel
theorem d_X_plane_94 : decode b_X_plane 94 = .ok (.dup, 1) := by decide +kernel
theorem d_X_plane_95 : decode b_X_plane 95 = .ok (.ldc 57, 2) := by decide +kernel
theorem d_X_plane_97 : decode b_X_plane 97 = .ok (.invokespecial 59, 3) := by decide +kernel
theorem d_X_plane_100 : decode b_X_plane 100 = .ok (.athrow, 1) := by decide +kernel
theorem d_X_plane_101 : decode b_X_plane 101 = .ok (.aload_n 0, 1) := by decide +kernel
theorem d_X_plane_102 : decode b_X_plane 102 = .ok (.getfield 10, 3) := by decide +kernel
theorem d_X_plane_105 : decode b_X_plane 105 = .ok (.invokevirtual 51, 3) := by decide +kernel
theorem d_X_plane_108 : decode b_X_plane 108 = .ok (.istore 5, 2) := by decide +kernel
theorem d_X_plane_110 : decode b_X_plane 110 = .ok (.aload_n 0, 1) := by decide +kernel
theorem d_X_plane_111 : decode b_X_plane 111 = .ok (.getfield 10, 3) := by decide +kernel
theorem d_X_plane_114 : decode b_X_plane 114 = .ok (.new 60, 3) := by decide +kernel
theorem d_X_plane_117 : decode b_X_plane 117 = .ok (.dup, 1) := by decide +kernel
theorem d_X_plane_118 : decode b_X_plane 118 = .ok (.iload_n 1, 1) := by decide +kernel
theorem d_X_plane_119 : decode b_X_plane 119 = .ok (.i2l, 1) := by decide +kernel
theorem d_X_plane_120 : decode b_X_plane 120 = .ok (.iload_n 2, 1) := by decide +kernel
theorem d_X_plane_121 : decode b_X_plane 121 = .ok (.i2l, 1) := by decide +kernel
theorem d_X_plane_122 : decode b_X_plane 122 = .ok (.iload_n 3, 1) := by decide +kernel
theorem d_X_plane_123 : decode b_X_plane 123 = .ok (.i2l, 1) := by decide +kernel
theorem d_X_plane_124 : decode b_X_plane 124 = .ok (.iload 4, 2) := by decide +kernel
theorem d_X_plane_126 : decode b_X_plane 126 = .ok (.i2l, 1) := by decide +kernel
theorem d_X_plane_127 : decode b_X_plane 127 = .ok (.invokespecial 62, 3) := by decide +kernel
theorem d_X_plane_130 : decode b_X_plane 130 = .ok (.invokevirtual 65, 3) := by decide +kernel
theorem d_X_plane_133 : decode b_X_plane 133 = .ok (.iload 5, 2) := by decide +kernel
theorem d_X_plane_135 : decode b_X_plane 135 = .ok (.ireturn, 1) := by decide +kernel
theorem d_X_planes_0 : decode b_X_planes 0 = .ok (.aload_n 0, 1) := by decide +kernel
theorem d_X_planes_1 : decode b_X_planes 1 = .ok (.getfield 10, 3) := by decide +kernel
theorem d_X_planes_4 : decode b_X_planes 4 = .ok (.invokevirtual 51, 3) := by decide +kernel
theorem d_X_planes_7 : decode b_X_planes 7 = .ok (.ireturn, 1) := by decide +kernel
theorem d_X_convex_0 : decode b_X_convex 0 = .ok (.iload_n 1, 1) := by decide +kernel
theorem d_X_convex_1 : decode b_X_convex 1 = .ok (.ifCond .lt 15, 3) := by decide +kernel
theorem d_X_convex_4 : decode b_X_convex 4 = .ok (.iload_n 1, 1) := by decide +kernel
theorem d_X_convex_5 : decode b_X_convex 5 = .ok (.aload_n 0, 1) := by decide +kernel
theorem d_X_convex_6 : decode b_X_convex 6 = .ok (.getfield 10, 3) := by decide +kernel
theorem d_X_convex_9 : decode b_X_convex 9 = .ok (.invokevirtual 51, 3) := by decide +kernel
theorem d_X_convex_12 : decode b_X_convex 12 = .ok (.ishr, 1) := by decide +kernel
theorem d_X_convex_13 : decode b_X_convex 13 = .ok (.ifCond .eq 13, 3) := by decide +kernel
theorem d_X_convex_16 : decode b_X_convex 16 = .ok (.new 34, 3) := by decide +kernel
theorem d_X_convex_19 : decode b_X_convex 19 = .ok (.dup, 1) := by decide +kernel
theorem d_X_convex_20 : decode b_X_convex 20 = .ok (.ldc 69, 2) := by decide +kernel
theorem d_X_convex_22 : decode b_X_convex 22 = .ok (.invokespecial 38, 3) := by decide +kernel
theorem d_X_convex_25 : decode b_X_convex 25 = .ok (.athrow, 1) := by decide +kernel
theorem d_X_convex_26 : decode b_X_convex 26 = .ok (.aload_n 0, 1) := by decide +kernel
theorem d_X_convex_27 : decode b_X_convex 27 = .ok (.invokevirtual 71, 3) := by decide +kernel
theorem d_X_convex_30 : decode b_X_convex 30 = .ok (.aload_n 0, 1) := by decide +kernel
theorem d_X_convex_31 : decode b_X_convex 31 = .ok (.getfield 18, 3) := by decide +kernel
theorem d_X_convex_34 : decode b_X_convex 34 = .ok (.aload_n 0, 1) := by decide +kernel
theorem d_X_convex_35 : decode b_X_convex 35 = .ok (.getfield 30, 3) := by decide +kernel
theorem d_X_convex_38 : decode b_X_convex 38 = .ok (.aaload, 1) := by decide +kernel
theorem d_X_convex_39 : decode b_X_convex 39 = .ok (.iload_n 1, 1) := by decide +kernel
theorem d_X_convex_40 : decode b_X_convex 40 = .ok (.invokevirtual 74, 3) := by decide +kernel
theorem d_X_convex_43 : decode b_X_convex 43 = .ok (.aload_n 0, 1) := by decide +kernel
theorem d_X_convex_44 : decode b_X_convex 44 = .ok (.dup, 1) := by decide +kernel
theorem d_X_convex_45 : decode b_X_convex 45 = .ok (.getfield 30, 3) := by decide +kernel
theorem d_X_convex_48 : decode b_X_convex 48 = .ok (.iconst 1, 1) := by decide +kernel
theorem d_X_convex_49 : decode b_X_convex 49 = .ok (.iadd, 1) := by decide +kernel
theorem d_X_convex_50 : decode b_X_convex 50 = .ok (.putfield 30, 3) := by decide +kernel
theorem d_X_convex_53 : decode b_X_convex 53 = .ok (.aload_n 0, 1) := by decide +kernel
theorem d_X_convex_54 : decode b_X_convex 54 = .ok (.getfield 30, 3) := by decide +kernel
theorem d_X_convex_57 : decode b_X_convex 57 = .ok (.ireturn, 1) := by decide +kernel
theorem d_X_join_0 : decode b_X_join 0 = .ok (.iload_n 1, 1) := by decide +kernel
theorem d_X_join_1 : decode b_X_join 1 = .ok (.ifCond .lt 8, 3) := by decide +kernel
theorem d_X_join_4 : decode b_X_join 4 = .ok (.iload_n 1, 1) := by decide +kernel
theorem d_X_join_5 : decode b_X_join 5 = .ok (.iconst 4, 1) := by decide +kernel
theorem d_X_join_6 : decode b_X_join 6 = .ok (.if_icmp .lt 13, 3) := by decide +kernel
theorem d_X_join_9 : decode b_X_join 9 = .ok (.new 34, 3) := by decide +kernel
theorem d_X_join_12 : decode b_X_join 12 = .ok (.dup, 1) := by decide +kernel
theorem d_X_join_13 : decode b_X_join 13 = .ok (.ldc 78, 2) := by decide +kernel
theorem d_X_join_15 : decode b_X_join 15 = .ok (.invokespecial 38, 3) := by decide +kernel
theorem d_X_join_18 : decode b_X_join 18 = .ok (.athrow, 1) := by decide +kernel
theorem d_X_join_19 : decode b_X_join 19 = .ok (.aload_n 0, 1) := by decide +kernel
theorem d_X_join_20 : decode b_X_join 20 = .ok (.getfield 30, 3) := by decide +kernel
theorem d_X_join_23 : decode b_X_join 23 = .ok (.iconst 2, 1) := by decide +kernel
theorem d_X_join_24 : decode b_X_join 24 = .ok (.if_icmp .ge 13, 3) := by decide +kernel
theorem d_X_join_27 : decode b_X_join 27 = .ok (.new 55, 3) := by decide +kernel
theorem d_X_join_30 : decode b_X_join 30 = .ok (.dup, 1) := by decide +kernel
theorem d_X_join_31 : decode b_X_join 31 = .ok (.ldc 80, 2) := by decide +kernel
theorem d_X_join_33 : decode b_X_join 33 = .ok (.invokespecial 59, 3) := by decide +kernel
theorem d_X_join_36 : decode b_X_join 36 = .ok (.athrow, 1) := by decide +kernel
theorem d_X_join_37 : decode b_X_join 37 = .ok (.aload_n 0, 1) := by decide +kernel
theorem d_X_join_38 : decode b_X_join 38 = .ok (.getfield 18, 3) := by decide +kernel
theorem d_X_join_41 : decode b_X_join 41 = .ok (.aload_n 0, 1) := by decide +kernel
theorem d_X_join_42 : decode b_X_join 42 = .ok (.getfield 30, 3) := by decide +kernel
theorem d_X_join_45 : decode b_X_join 45 = .ok (.iconst 2, 1) := by decide +kernel
theorem d_X_join_46 : decode b_X_join 46 = .ok (.isub, 1) := by decide +kernel
theorem d_X_join_47 : decode b_X_join 47 = .ok (.aaload, 1) := by decide +kernel
theorem d_X_join_48 : decode b_X_join 48 = .ok (.aload_n 0, 1) := by decide +kernel
theorem d_X_join_49 : decode b_X_join 49 = .ok (.getfield 18, 3) := by decide +kernel
theorem d_X_join_52 : decode b_X_join 52 = .ok (.aload_n 0, 1) := by decide +kernel
theorem d_X_join_53 : decode b_X_join 53 = .ok (.getfield 30, 3) := by decide +kernel
theorem d_X_join_56 : decode b_X_join 56 = .ok (.iconst 1, 1) := by decide +kernel
theorem d_X_join_57 : decode b_X_join 57 = .ok (.isub, 1) := by decide +kernel
theorem d_X_join_58 : decode b_X_join 58 = .ok (.aaload, 1) := by decide +kernel
theorem d_X_join_59 : decode b_X_join 59 = .ok (.iload_n 1, 1) := by decide +kernel
theorem d_X_join_60 : decode b_X_join 60 = .ok (.invokevirtual 82, 3) := by decide +kernel
theorem d_X_join_63 : decode b_X_join 63 = .ok (.aload_n 0, 1) := by decide +kernel
theorem d_X_join_64 : decode b_X_join 64 = .ok (.dup, 1) := by decide +kernel
theorem d_X_join_65 : decode b_X_join 65 = .ok (.getfield 30, 3) := by decide +kernel
theorem d_X_join_68 : decode b_X_join 68 = .ok (.iconst 1, 1) := by decide +kernel
theorem d_X_join_69 : decode b_X_join 69 = .ok (.isub, 1) := by decide +kernel
theorem d_X_join_70 : decode b_X_join 70 = .ok (.putfield 30, 3) := by decide +kernel
theorem d_X_join_73 : decode b_X_join 73 = .ok (.aload_n 0, 1) := by decide +kernel
theorem d_X_join_74 : decode b_X_join 74 = .ok (.getfield 30, 3) := by decide +kernel
theorem d_X_join_77 : decode b_X_join 77 = .ok (.ireturn, 1) := by decide +kernel
theorem d_X_turn_0 : decode b_X_turn 0 = .ok (.aload_n 0, 1) := by decide +kernel
theorem d_X_turn_1 : decode b_X_turn 1 = .ok (.invokevirtual 86, 3) := by decide +kernel
theorem d_X_turn_4 : decode b_X_turn 4 = .ok (.aload_n 0, 1) := by decide +kernel
theorem d_X_turn_5 : decode b_X_turn 5 = .ok (.getfield 18, 3) := by decide +kernel
theorem d_X_turn_8 : decode b_X_turn 8 = .ok (.aload_n 0, 1) := by decide +kernel
theorem d_X_turn_9 : decode b_X_turn 9 = .ok (.getfield 30, 3) := by decide +kernel
theorem d_X_turn_12 : decode b_X_turn 12 = .ok (.iconst 1, 1) := by decide +kernel
theorem d_X_turn_13 : decode b_X_turn 13 = .ok (.isub, 1) := by decide +kernel
theorem d_X_turn_14 : decode b_X_turn 14 = .ok (.aaload, 1) := by decide +kernel
theorem d_X_turn_15 : decode b_X_turn 15 = .ok (.invokevirtual 89, 3) := by decide +kernel
theorem d_X_turn_18 : decode b_X_turn 18 = .ok (.return_, 1) := by decide +kernel
theorem d_X_copy_0 : decode b_X_copy 0 = .ok (.iload_n 1, 1) := by decide +kernel
theorem d_X_copy_1 : decode b_X_copy 1 = .ok (.ifCond .lt 11, 3) := by decide +kernel
theorem d_X_copy_4 : decode b_X_copy 4 = .ok (.iload_n 1, 1) := by decide +kernel
theorem d_X_copy_5 : decode b_X_copy 5 = .ok (.aload_n 0, 1) := by decide +kernel
theorem d_X_copy_6 : decode b_X_copy 6 = .ok (.getfield 30, 3) := by decide +kernel
theorem d_X_copy_9 : decode b_X_copy 9 = .ok (.if_icmp .lt 13, 3) := by decide +kernel
theorem d_X_copy_12 : decode b_X_copy 12 = .ok (.new 92, 3) := by decide +kernel
theorem d_X_copy_15 : decode b_X_copy 15 = .ok (.dup, 1) := by decide +kernel
theorem d_X_copy_16 : decode b_X_copy 16 = .ok (.ldc 94, 2) := by decide +kernel
theorem d_X_copy_18 : decode b_X_copy 18 = .ok (.invokespecial 96, 3) := by decide +kernel
theorem d_X_copy_21 : decode b_X_copy 21 = .ok (.athrow, 1) := by decide +kernel
theorem d_X_copy_22 : decode b_X_copy 22 = .ok (.aload_n 0, 1) := by decide +kernel
theorem d_X_copy_23 : decode b_X_copy 23 = .ok (.invokevirtual 71, 3) := by decide +kernel
theorem d_X_copy_26 : decode b_X_copy 26 = .ok (.aload_n 0, 1) := by decide +kernel
theorem d_X_copy_27 : decode b_X_copy 27 = .ok (.getfield 18, 3) := by decide +kernel
theorem d_X_copy_30 : decode b_X_copy 30 = .ok (.aload_n 0, 1) := by decide +kernel
theorem d_X_copy_31 : decode b_X_copy 31 = .ok (.getfield 30, 3) := by decide +kernel
theorem d_X_copy_34 : decode b_X_copy 34 = .ok (.aaload, 1) := by decide +kernel
theorem d_X_copy_35 : decode b_X_copy 35 = .ok (.aload_n 0, 1) := by decide +kernel
theorem d_X_copy_36 : decode b_X_copy 36 = .ok (.getfield 18, 3) := by decide +kernel
theorem d_X_copy_39 : decode b_X_copy 39 = .ok (.aload_n 0, 1) := by decide +kernel
theorem d_X_copy_40 : decode b_X_copy 40 = .ok (.getfield 30, 3) := by decide +kernel
theorem d_X_copy_43 : decode b_X_copy 43 = .ok (.iconst 1, 1) := by decide +kernel
theorem d_X_copy_44 : decode b_X_copy 44 = .ok (.isub, 1) := by decide +kernel
theorem d_X_copy_45 : decode b_X_copy 45 = .ok (.iload_n 1, 1) := by decide +kernel
theorem d_X_copy_46 : decode b_X_copy 46 = .ok (.isub, 1) := by decide +kernel
theorem d_X_copy_47 : decode b_X_copy 47 = .ok (.aaload, 1) := by decide +kernel
theorem d_X_copy_48 : decode b_X_copy 48 = .ok (.invokevirtual 97, 3) := by decide +kernel
theorem d_X_copy_51 : decode b_X_copy 51 = .ok (.aload_n 0, 1) := by decide +kernel
theorem d_X_copy_52 : decode b_X_copy 52 = .ok (.dup, 1) := by decide +kernel
theorem d_X_copy_53 : decode b_X_copy 53 = .ok (.getfield 30, 3) := by decide +kernel
theorem d_X_copy_56 : decode b_X_copy 56 = .ok (.iconst 1, 1) := by decide +kernel
theorem d_X_copy_57 : decode b_X_copy 57 = .ok (.iadd, 1) := by decide +kernel
theorem d_X_copy_58 : decode b_X_copy 58 = .ok (.putfield 30, 3) := by decide +kernel
theorem d_X_copy_61 : decode b_X_copy 61 = .ok (.aload_n 0, 1) := by decide +kernel
theorem d_X_copy_62 : decode b_X_copy 62 = .ok (.getfield 30, 3) := by decide +kernel
theorem d_X_copy_65 : decode b_X_copy 65 = .ok (.ireturn, 1) := by decide +kernel
theorem d_X_drop_0 : decode b_X_drop 0 = .ok (.aload_n 0, 1) := by decide +kernel
theorem d_X_drop_1 : decode b_X_drop 1 = .ok (.invokevirtual 86, 3) := by decide +kernel
theorem d_X_drop_4 : decode b_X_drop 4 = .ok (.aload_n 0, 1) := by decide +kernel
theorem d_X_drop_5 : decode b_X_drop 5 = .ok (.dup, 1) := by decide +kernel
theorem d_X_drop_6 : decode b_X_drop 6 = .ok (.getfield 30, 3) := by decide +kernel
theorem d_X_drop_9 : decode b_X_drop 9 = .ok (.iconst 1, 1) := by decide +kernel
theorem d_X_drop_10 : decode b_X_drop 10 = .ok (.isub, 1) := by decide +kernel
theorem d_X_drop_11 : decode b_X_drop 11 = .ok (.putfield 30, 3) := by decide +kernel
theorem d_X_drop_14 : decode b_X_drop 14 = .ok (.aload_n 0, 1) := by decide +kernel
theorem d_X_drop_15 : decode b_X_drop 15 = .ok (.getfield 30, 3) := by decide +kernel
theorem d_X_drop_18 : decode b_X_drop 18 = .ok (.ireturn, 1) := by decide +kernel
theorem d_X_solids_0 : decode b_X_solids 0 = .ok (.aload_n 0, 1) := by decide +kernel
theorem d_X_solids_1 : decode b_X_solids 1 = .ok (.getfield 30, 3) := by decide +kernel
theorem d_X_solids_4 : decode b_X_solids 4 = .ok (.ireturn, 1) := by decide +kernel
theorem d_X_inside_0 : decode b_X_inside 0 = .ok (.iload_n 1, 1) := by decide +kernel
theorem d_X_inside_1 : decode b_X_inside 1 = .ok (.iload_n 2, 1) := by decide +kernel
theorem d_X_inside_2 : decode b_X_inside 2 = .ok (.iload_n 3, 1) := by decide +kernel
theorem d_X_inside_3 : decode b_X_inside 3 = .ok (.iload 4, 2) := by decide +kernel
theorem d_X_inside_5 : decode b_X_inside 5 = .ok (.invokestatic 101, 3) := by decide +kernel
theorem d_X_inside_8 : decode b_X_inside 8 = .ok (.aload_n 0, 1) := by decide +kernel
theorem d_X_inside_9 : decode b_X_inside 9 = .ok (.invokevirtual 86, 3) := by decide +kernel
theorem d_X_inside_12 : decode b_X_inside 12 = .ok (.aload_n 0, 1) := by decide +kernel
theorem d_X_inside_13 : decode b_X_inside 13 = .ok (.getfield 26, 3) := by decide +kernel
theorem d_X_inside_16 : decode b_X_inside 16 = .ok (.iload_n 1, 1) := by decide +kernel
theorem d_X_inside_17 : decode b_X_inside 17 = .ok (.i2l, 1) := by decide +kernel
theorem d_X_inside_18 : decode b_X_inside 18 = .ok (.iload_n 2, 1) := by decide +kernel
theorem d_X_inside_19 : decode b_X_inside 19 = .ok (.i2l, 1) := by decide +kernel
theorem d_X_inside_20 : decode b_X_inside 20 = .ok (.iload_n 3, 1) := by decide +kernel
theorem d_X_inside_21 : decode b_X_inside 21 = .ok (.i2l, 1) := by decide +kernel
theorem d_X_inside_22 : decode b_X_inside 22 = .ok (.iload 4, 2) := by decide +kernel
theorem d_X_inside_24 : decode b_X_inside 24 = .ok (.i2l, 1) := by decide +kernel
theorem d_X_inside_25 : decode b_X_inside 25 = .ok (.invokevirtual 105, 3) := by decide +kernel
theorem d_X_inside_28 : decode b_X_inside 28 = .ok (.aload_n 0, 1) := by decide +kernel
theorem d_X_inside_29 : decode b_X_inside 29 = .ok (.getfield 10, 3) := by decide +kernel
theorem d_X_inside_32 : decode b_X_inside 32 = .ok (.aload_n 0, 1) := by decide +kernel
theorem d_X_inside_33 : decode b_X_inside 33 = .ok (.getfield 26, 3) := by decide +kernel
theorem d_X_inside_36 : decode b_X_inside 36 = .ok (.invokevirtual 108, 3) := by decide +kernel
theorem d_X_inside_39 : decode b_X_inside 39 = .ok (.ifCond .eq 5, 3) := by decide +kernel
theorem d_X_inside_42 : decode b_X_inside 42 = .ok (.iconst 2, 1) := by decide +kernel
theorem d_X_inside_43 : decode b_X_inside 43 = .ok (.ireturn, 1) := by decide +kernel
theorem d_X_inside_44 : decode b_X_inside 44 = .ok (.aload_n 0, 1) := by decide +kernel
theorem d_X_inside_45 : decode b_X_inside 45 = .ok (.aload_n 0, 1) := by decide +kernel
theorem d_X_inside_46 : decode b_X_inside 46 = .ok (.getfield 10, 3) := by decide +kernel
theorem d_X_inside_49 : decode b_X_inside 49 = .ok (.aload_n 0, 1) := by decide +kernel
theorem d_X_inside_50 : decode b_X_inside 50 = .ok (.getfield 26, 3) := by decide +kernel
theorem d_X_inside_53 : decode b_X_inside 53 = .ok (.invokevirtual 112, 3) := by decide +kernel
theorem d_X_inside_56 : decode b_X_inside 56 = .ok (.invokevirtual 116, 3) := by decide +kernel
theorem d_X_inside_59 : decode b_X_inside 59 = .ok (.ifCond .eq 7, 3) := by decide +kernel
theorem d_X_inside_62 : decode b_X_inside 62 = .ok (.iconst 1, 1) := by decide +kernel
theorem d_X_inside_63 : decode b_X_inside 63 = .ok (.goto 4, 3) := by decide +kernel
theorem d_X_inside_66 : decode b_X_inside 66 = .ok (.iconst 0, 1) := by decide +kernel
theorem d_X_inside_67 : decode b_X_inside 67 = .ok (.ireturn, 1) := by decide +kernel
theorem d_X_side_0 : decode b_X_side 0 = .ok (.iload_n 1, 1) := by decide +kernel
theorem d_X_side_1 : decode b_X_side 1 = .ok (.iload_n 2, 1) := by decide +kernel
theorem d_X_side_2 : decode b_X_side 2 = .ok (.iload_n 3, 1) := by decide +kernel
theorem d_X_side_3 : decode b_X_side 3 = .ok (.iload 4, 2) := by decide +kernel
theorem d_X_side_5 : decode b_X_side 5 = .ok (.invokestatic 101, 3) := by decide +kernel
theorem d_X_side_8 : decode b_X_side 8 = .ok (.aload_n 0, 1) := by decide +kernel
theorem d_X_side_9 : decode b_X_side 9 = .ok (.invokevirtual 86, 3) := by decide +kernel
theorem d_X_side_12 : decode b_X_side 12 = .ok (.aload_n 0, 1) := by decide +kernel
theorem d_X_side_13 : decode b_X_side 13 = .ok (.getfield 26, 3) := by decide +kernel
theorem d_X_side_16 : decode b_X_side 16 = .ok (.iload_n 1, 1) := by decide +kernel
theorem d_X_side_17 : decode b_X_side 17 = .ok (.i2l, 1) := by decide +kernel
theorem d_X_side_18 : decode b_X_side 18 = .ok (.iload_n 2, 1) := by decide +kernel
theorem d_X_side_19 : decode b_X_side 19 = .ok (.i2l, 1) := by decide +kernel
theorem d_X_side_20 : decode b_X_side 20 = .ok (.iload_n 3, 1) := by decide +kernel
theorem d_X_side_21 : decode b_X_side 21 = .ok (.i2l, 1) := by decide +kernel
theorem d_X_side_22 : decode b_X_side 22 = .ok (.iload 4, 2) := by decide +kernel
theorem d_X_side_24 : decode b_X_side 24 = .ok (.i2l, 1) := by decide +kernel
theorem d_X_side_25 : decode b_X_side 25 = .ok (.invokevirtual 105, 3) := by decide +kernel
theorem d_X_side_28 : decode b_X_side 28 = .ok (.aload_n 0, 1) := by decide +kernel
theorem d_X_side_29 : decode b_X_side 29 = .ok (.getfield 10, 3) := by decide +kernel
theorem d_X_side_32 : decode b_X_side 32 = .ok (.aload_n 0, 1) := by decide +kernel
theorem d_X_side_33 : decode b_X_side 33 = .ok (.getfield 26, 3) := by decide +kernel
theorem d_X_side_36 : decode b_X_side 36 = .ok (.invokevirtual 120, 3) := by decide +kernel
theorem d_X_side_39 : decode b_X_side 39 = .ok (.istore 5, 2) := by decide +kernel
theorem d_X_side_41 : decode b_X_side 41 = .ok (.iload 5, 2) := by decide +kernel
theorem d_X_side_43 : decode b_X_side 43 = .ok (.iconst (-1), 1) := by decide +kernel
theorem d_X_side_44 : decode b_X_side 44 = .ok (.if_icmp .ne 13, 3) := by decide +kernel
theorem d_X_side_47 : decode b_X_side 47 = .ok (.new 123, 3) := by decide +kernel
theorem d_X_side_50 : decode b_X_side 50 = .ok (.dup, 1) := by decide +kernel
theorem d_X_side_51 : decode b_X_side 51 = .ok (.ldc 125, 2) := by decide +kernel
theorem d_X_side_53 : decode b_X_side 53 = .ok (.invokespecial 127, 3) := by decide +kernel
theorem d_X_side_56 : decode b_X_side 56 = .ok (.athrow, 1) := by decide +kernel
theorem d_X_side_57 : decode b_X_side 57 = .ok (.aload_n 0, 1) := by decide +kernel
theorem d_X_side_58 : decode b_X_side 58 = .ok (.iload 5, 2) := by decide +kernel
theorem d_X_side_60 : decode b_X_side 60 = .ok (.invokevirtual 128, 3) := by decide +kernel
theorem d_X_side_63 : decode b_X_side 63 = .ok (.ireturn, 1) := by decide +kernel
theorem d_X_enters_0 : decode b_X_enters 0 = .ok (.iload_n 1, 1) := by decide +kernel
theorem d_X_enters_1 : decode b_X_enters 1 = .ok (.ifCond .lt 8, 3) := by decide +kernel
theorem d_X_enters_4 : decode b_X_enters 4 = .ok (.iload_n 1, 1) := by decide +kernel
theorem d_X_enters_5 : decode b_X_enters 5 = .ok (.iconst 3, 1) := by decide +kernel
theorem d_X_enters_6 : decode b_X_enters 6 = .ok (.if_icmp .lt 13, 3) := by decide +kernel
theorem d_X_enters_9 : decode b_X_enters 9 = .ok (.new 34, 3) := by decide +kernel
theorem d_X_enters_12 : decode b_X_enters 12 = .ok (.dup, 1) := by decide +kernel
theorem d_X_enters_13 : decode b_X_enters 13 = .ok (.ldc 132, 2) := by decide +kernel
theorem d_X_enters_15 : decode b_X_enters 15 = .ok (.invokespecial 38, 3) := by decide +kernel
theorem d_X_enters_18 : decode b_X_enters 18 = .ok (.athrow, 1) := by decide +kernel
theorem d_X_enters_19 : decode b_X_enters 19 = .ok (.iload_n 2, 1) := by decide +kernel
theorem d_X_enters_20 : decode b_X_enters 20 = .ok (.sipush 999, 3) := by decide +kernel
theorem d_X_enters_23 : decode b_X_enters 23 = .ok (.invokestatic 42, 3) := by decide +kernel
theorem d_X_enters_26 : decode b_X_enters 26 = .ok (.ifCond .ne 13, 3) := by decide +kernel
theorem d_X_enters_29 : decode b_X_enters 29 = .ok (.iload_n 3, 1) := by decide +kernel
theorem d_X_enters_30 : decode b_X_enters 30 = .ok (.sipush 999, 3) := by decide +kernel
theorem d_X_enters_33 : decode b_X_enters 33 = .ok (.invokestatic 42, 3) := by decide +kernel
theorem d_X_enters_36 : decode b_X_enters 36 = .ok (.ifCond .eq 13, 3) := by decide +kernel
theorem d_X_enters_39 : decode b_X_enters 39 = .ok (.new 34, 3) := by decide +kernel
theorem d_X_enters_42 : decode b_X_enters 42 = .ok (.dup, 1) := by decide +kernel
theorem d_X_enters_43 : decode b_X_enters 43 = .ok (.ldc 134, 2) := by decide +kernel
theorem d_X_enters_45 : decode b_X_enters 45 = .ok (.invokespecial 38, 3) := by decide +kernel
theorem d_X_enters_48 : decode b_X_enters 48 = .ok (.athrow, 1) := by decide +kernel
theorem d_X_enters_49 : decode b_X_enters 49 = .ok (.aload_n 0, 1) := by decide +kernel
theorem d_X_enters_50 : decode b_X_enters 50 = .ok (.invokevirtual 86, 3) := by decide +kernel
theorem d_X_enters_53 : decode b_X_enters 53 = .ok (.iconst 0, 1) := by decide +kernel
theorem d_X_enters_54 : decode b_X_enters 54 = .ok (.istore 4, 2) := by decide +kernel
theorem d_X_enters_56 : decode b_X_enters 56 = .ok (.iconst 0, 1) := by decide +kernel
theorem d_X_enters_57 : decode b_X_enters 57 = .ok (.istore 5, 2) := by decide +kernel
theorem d_X_enters_59 : decode b_X_enters 59 = .ok (.iload 5, 2) := by decide +kernel
theorem d_X_enters_61 : decode b_X_enters 61 = .ok (.aload_n 0, 1) := by decide +kernel
theorem d_X_enters_62 : decode b_X_enters 62 = .ok (.getfield 10, 3) := by decide +kernel
theorem d_X_enters_65 : decode b_X_enters 65 = .ok (.invokevirtual 136, 3) := by decide +kernel
theorem d_X_enters_68 : decode b_X_enters 68 = .ok (.if_icmp .ge 36, 3) := by decide +kernel
theorem d_X_enters_71 : decode b_X_enters 71 = .ok (.aload_n 0, 1) := by decide +kernel
theorem d_X_enters_72 : decode b_X_enters 72 = .ok (.getfield 10, 3) := by decide +kernel
theorem d_X_enters_75 : decode b_X_enters 75 = .ok (.iload 5, 2) := by decide +kernel
theorem d_X_enters_77 : decode b_X_enters 77 = .ok (.invokevirtual 139, 3) := by decide +kernel
theorem d_X_enters_80 : decode b_X_enters 80 = .ok (.ifCond .eq 18, 3) := by decide +kernel
theorem d_X_enters_83 : decode b_X_enters 83 = .ok (.aload_n 0, 1) := by decide +kernel
theorem d_X_enters_84 : decode b_X_enters 84 = .ok (.iload 5, 2) := by decide +kernel
theorem d_X_enters_86 : decode b_X_enters 86 = .ok (.iload_n 1, 1) := by decide +kernel
theorem d_X_enters_87 : decode b_X_enters 87 = .ok (.iload_n 2, 1) := by decide +kernel
theorem d_X_enters_88 : decode b_X_enters 88 = .ok (.iload_n 3, 1) := by decide +kernel
theorem d_X_enters_89 : decode b_X_enters 89 = .ok (.invokevirtual 142, 3) := by decide +kernel
theorem d_X_enters_92 : decode b_X_enters 92 = .ok (.ifCond .eq 6, 3) := by decide +kernel
theorem d_X_enters_95 : decode b_X_enters 95 = .ok (.iinc 4 1, 3) := by decide +kernel
theorem d_X_enters_98 : decode b_X_enters 98 = .ok (.iinc 5 1, 3) := by decide +kernel
theorem d_X_enters_101 : decode b_X_enters 101 = .ok (.goto (-42), 3) := by decide +kernel
theorem d_X_enters_104 : decode b_X_enters 104 = .ok (.iload 4, 2) := by decide +kernel
theorem d_X_enters_106 : decode b_X_enters 106 = .ok (.ireturn, 1) := by decide +kernel
theorem d_X_isEntry_0 : decode b_X_isEntry 0 = .ok (.aload_n 0, 1) := by decide +kernel
theorem d_X_isEntry_1 : decode b_X_isEntry 1 = .ok (.getfield 10, 3) := by decide +kernel
theorem d_X_isEntry_4 : decode b_X_isEntry 4 = .ok (.iload_n 1, 1) := by decide +kernel
theorem d_X_isEntry_5 : decode b_X_isEntry 5 = .ok (.invokevirtual 146, 3) := by decide +kernel
theorem d_X_isEntry_8 : decode b_X_isEntry 8 = .ok (.astore 5, 2) := by decide +kernel
theorem d_X_isEntry_10 : decode b_X_isEntry 10 = .ok (.aload 5, 2) := by decide +kernel
theorem d_X_isEntry_12 : decode b_X_isEntry 12 = .ok (.iload_n 2, 1) := by decide +kernel
theorem d_X_isEntry_13 : decode b_X_isEntry 13 = .ok (.invokevirtual 150, 3) := by decide +kernel
theorem d_X_isEntry_16 : decode b_X_isEntry 16 = .ok (.lstore 6, 2) := by decide +kernel
theorem d_X_isEntry_18 : decode b_X_isEntry 18 = .ok (.lload 6, 2) := by decide +kernel
theorem d_X_isEntry_20 : decode b_X_isEntry 20 = .ok (.lconst 0, 1) := by decide +kernel
theorem d_X_isEntry_21 : decode b_X_isEntry 21 = .ok (.lcmp, 1) := by decide +kernel
theorem d_X_isEntry_22 : decode b_X_isEntry 22 = .ok (.ifCond .ne 5, 3) := by decide +kernel
theorem d_X_isEntry_25 : decode b_X_isEntry 25 = .ok (.iconst 0, 1) := by decide +kernel
theorem d_X_isEntry_26 : decode b_X_isEntry 26 = .ok (.ireturn, 1) := by decide +kernel
theorem d_X_isEntry_27 : decode b_X_isEntry 27 = .ok (.aload_n 0, 1) := by decide +kernel
theorem d_X_isEntry_28 : decode b_X_isEntry 28 = .ok (.getfield 26, 3) := by decide +kernel
theorem d_X_isEntry_31 : decode b_X_isEntry 31 = .ok (.iload_n 2, 1) := by decide +kernel
theorem d_X_isEntry_32 : decode b_X_isEntry 32 = .ok (.lconst 0, 1) := by decide +kernel
theorem d_X_isEntry_33 : decode b_X_isEntry 33 = .ok (.iload_n 3, 1) := by decide +kernel
theorem d_X_isEntry_34 : decode b_X_isEntry 34 = .ok (.i2l, 1) := by decide +kernel
theorem d_X_isEntry_35 : decode b_X_isEntry 35 = .ok (.iload 4, 2) := by decide +kernel
theorem d_X_isEntry_37 : decode b_X_isEntry 37 = .ok (.i2l, 1) := by decide +kernel
theorem d_X_isEntry_38 : decode b_X_isEntry 38 = .ok (.lconst 1, 1) := by decide +kernel
theorem d_X_isEntry_39 : decode b_X_isEntry 39 = .ok (.invokevirtual 154, 3) := by decide +kernel
theorem d_X_isEntry_42 : decode b_X_isEntry 42 = .ok (.aload 5, 2) := by decide +kernel
theorem d_X_isEntry_44 : decode b_X_isEntry 44 = .ok (.aload_n 0, 1) := by decide +kernel
theorem d_X_isEntry_45 : decode b_X_isEntry 45 = .ok (.getfield 26, 3) := by decide +kernel
theorem d_X_isEntry_48 : decode b_X_isEntry 48 = .ok (.invokevirtual 158, 3) := by decide +kernel
theorem d_X_isEntry_51 : decode b_X_isEntry 51 = .ok (.lneg, 1) := by decide +kernel
theorem d_X_isEntry_52 : decode b_X_isEntry 52 = .ok (.lstore 8, 2) := by decide +kernel
theorem d_X_isEntry_54 : decode b_X_isEntry 54 = .ok (.aload_n 0, 1) := by decide +kernel
theorem d_X_isEntry_55 : decode b_X_isEntry 55 = .ok (.getfield 26, 3) := by decide +kernel
theorem d_X_isEntry_58 : decode b_X_isEntry 58 = .ok (.iload_n 2, 1) := by decide +kernel
theorem d_X_isEntry_59 : decode b_X_isEntry 59 = .ok (.lload 6, 2) := by decide +kernel
theorem d_X_isEntry_61 : decode b_X_isEntry 61 = .ok (.lconst 0, 1) := by decide +kernel
theorem d_X_isEntry_62 : decode b_X_isEntry 62 = .ok (.lcmp, 1) := by decide +kernel
theorem d_X_isEntry_63 : decode b_X_isEntry 63 = .ok (.ifCond .ge 9, 3) := by decide +kernel
theorem d_X_isEntry_66 : decode b_X_isEntry 66 = .ok (.lload 8, 2) := by decide +kernel
theorem d_X_isEntry_68 : decode b_X_isEntry 68 = .ok (.lneg, 1) := by decide +kernel
theorem d_X_isEntry_69 : decode b_X_isEntry 69 = .ok (.goto 5, 3) := by decide +kernel
theorem d_X_isEntry_72 : decode b_X_isEntry 72 = .ok (.lload 8, 2) := by decide +kernel
theorem d_X_isEntry_74 : decode b_X_isEntry 74 = .ok (.iload_n 3, 1) := by decide +kernel
theorem d_X_isEntry_75 : decode b_X_isEntry 75 = .ok (.i2l, 1) := by decide +kernel
theorem d_X_isEntry_76 : decode b_X_isEntry 76 = .ok (.iload 4, 2) := by decide +kernel
theorem d_X_isEntry_78 : decode b_X_isEntry 78 = .ok (.i2l, 1) := by decide +kernel
theorem d_X_isEntry_79 : decode b_X_isEntry 79 = .ok (.lload 6, 2) := by decide +kernel
theorem d_X_isEntry_81 : decode b_X_isEntry 81 = .ok (.invokestatic 162, 3) := by decide +kernel
theorem d_X_isEntry_84 : decode b_X_isEntry 84 = .ok (.invokevirtual 154, 3) := by decide +kernel
theorem d_X_isEntry_87 : decode b_X_isEntry 87 = .ok (.aload_n 0, 1) := by decide +kernel
theorem d_X_isEntry_88 : decode b_X_isEntry 88 = .ok (.getfield 10, 3) := by decide +kernel
theorem d_X_isEntry_91 : decode b_X_isEntry 91 = .ok (.aload_n 0, 1) := by decide +kernel
theorem d_X_isEntry_92 : decode b_X_isEntry 92 = .ok (.getfield 26, 3) := by decide +kernel
theorem d_X_isEntry_95 : decode b_X_isEntry 95 = .ok (.invokevirtual 168, 3) := by decide +kernel
theorem d_X_isEntry_98 : decode b_X_isEntry 98 = .ok (.ifCond .ne 5, 3) := by decide +kernel
theorem d_X_isEntry_101 : decode b_X_isEntry 101 = .ok (.iconst 0, 1) := by decide +kernel
theorem d_X_isEntry_102 : decode b_X_isEntry 102 = .ok (.ireturn, 1) := by decide +kernel
theorem d_X_isEntry_103 : decode b_X_isEntry 103 = .ok (.aload_n 0, 1) := by decide +kernel
theorem d_X_isEntry_104 : decode b_X_isEntry 104 = .ok (.getfield 10, 3) := by decide +kernel
theorem d_X_isEntry_107 : decode b_X_isEntry 107 = .ok (.aload_n 0, 1) := by decide +kernel
theorem d_X_isEntry_108 : decode b_X_isEntry 108 = .ok (.getfield 26, 3) := by decide +kernel
theorem d_X_isEntry_111 : decode b_X_isEntry 111 = .ok (.invokevirtual 120, 3) := by decide +kernel
theorem d_X_isEntry_114 : decode b_X_isEntry 114 = .ok (.iconst (-1), 1) := by decide +kernel
theorem d_X_isEntry_115 : decode b_X_isEntry 115 = .ok (.if_icmp .ne 13, 3) := by decide +kernel
theorem d_X_isEntry_118 : decode b_X_isEntry 118 = .ok (.new 123, 3) := by decide +kernel
theorem d_X_isEntry_121 : decode b_X_isEntry 121 = .ok (.dup, 1) := by decide +kernel
theorem d_X_isEntry_122 : decode b_X_isEntry 122 = .ok (.ldc 171, 2) := by decide +kernel
theorem d_X_isEntry_124 : decode b_X_isEntry 124 = .ok (.invokespecial 127, 3) := by decide +kernel
theorem d_X_isEntry_127 : decode b_X_isEntry 127 = .ok (.athrow, 1) := by decide +kernel
theorem d_X_isEntry_128 : decode b_X_isEntry 128 = .ok (.aload_n 0, 1) := by decide +kernel
theorem d_X_isEntry_129 : decode b_X_isEntry 129 = .ok (.iload_n 1, 1) := by decide +kernel
theorem d_X_isEntry_130 : decode b_X_isEntry 130 = .ok (.invokevirtual 128, 3) := by decide +kernel
theorem d_X_isEntry_133 : decode b_X_isEntry 133 = .ok (.lload 6, 2) := by decide +kernel
theorem d_X_isEntry_135 : decode b_X_isEntry 135 = .ok (.lconst 0, 1) := by decide +kernel
theorem d_X_isEntry_136 : decode b_X_isEntry 136 = .ok (.lcmp, 1) := by decide +kernel
theorem d_X_isEntry_137 : decode b_X_isEntry 137 = .ok (.ifCond .ge 7, 3) := by decide +kernel
theorem d_X_isEntry_140 : decode b_X_isEntry 140 = .ok (.iconst 1, 1) := by decide +kernel
theorem d_X_isEntry_141 : decode b_X_isEntry 141 = .ok (.goto 4, 3) := by decide +kernel
theorem d_X_isEntry_144 : decode b_X_isEntry 144 = .ok (.iconst (-1), 1) := by decide +kernel
theorem d_X_isEntry_145 : decode b_X_isEntry 145 = .ok (.if_icmp .ne 7, 3) := by decide +kernel
theorem d_X_isEntry_148 : decode b_X_isEntry 148 = .ok (.iconst 1, 1) := by decide +kernel
theorem d_X_isEntry_149 : decode b_X_isEntry 149 = .ok (.goto 4, 3) := by decide +kernel
theorem d_X_isEntry_152 : decode b_X_isEntry 152 = .ok (.iconst 0, 1) := by decide +kernel
theorem d_X_isEntry_153 : decode b_X_isEntry 153 = .ok (.ireturn, 1) := by decide +kernel
theorem d_X_lookAtSpot_0 : decode b_X_lookAtSpot 0 = .ok (.aload_n 0, 1) := by decide +kernel
theorem d_X_lookAtSpot_1 : decode b_X_lookAtSpot 1 = .ok (.aload_n 0, 1) := by decide +kernel
theorem d_X_lookAtSpot_2 : decode b_X_lookAtSpot 2 = .ok (.getfield 10, 3) := by decide +kernel
theorem d_X_lookAtSpot_5 : decode b_X_lookAtSpot 5 = .ok (.aload_n 0, 1) := by decide +kernel
theorem d_X_lookAtSpot_6 : decode b_X_lookAtSpot 6 = .ok (.getfield 26, 3) := by decide +kernel
theorem d_X_lookAtSpot_9 : decode b_X_lookAtSpot 9 = .ok (.iload_n 1, 1) := by decide +kernel
theorem d_X_lookAtSpot_10 : decode b_X_lookAtSpot 10 = .ok (.invokevirtual 173, 3) := by decide +kernel
theorem d_X_lookAtSpot_13 : decode b_X_lookAtSpot 13 = .ok (.invokevirtual 116, 3) := by decide +kernel
theorem d_X_lookAtSpot_16 : decode b_X_lookAtSpot 16 = .ok (.istore_n 2, 1) := by decide +kernel
theorem d_X_lookAtSpot_17 : decode b_X_lookAtSpot 17 = .ok (.aload_n 0, 1) := by decide +kernel
theorem d_X_lookAtSpot_18 : decode b_X_lookAtSpot 18 = .ok (.aload_n 0, 1) := by decide +kernel
theorem d_X_lookAtSpot_19 : decode b_X_lookAtSpot 19 = .ok (.getfield 10, 3) := by decide +kernel
theorem d_X_lookAtSpot_22 : decode b_X_lookAtSpot 22 = .ok (.aload_n 0, 1) := by decide +kernel
theorem d_X_lookAtSpot_23 : decode b_X_lookAtSpot 23 = .ok (.getfield 26, 3) := by decide +kernel
theorem d_X_lookAtSpot_26 : decode b_X_lookAtSpot 26 = .ok (.iload_n 1, 1) := by decide +kernel
theorem d_X_lookAtSpot_27 : decode b_X_lookAtSpot 27 = .ok (.invokevirtual 177, 3) := by decide +kernel
theorem d_X_lookAtSpot_30 : decode b_X_lookAtSpot 30 = .ok (.invokevirtual 116, 3) := by decide +kernel
theorem d_X_lookAtSpot_33 : decode b_X_lookAtSpot 33 = .ok (.istore_n 3, 1) := by decide +kernel
theorem d_X_lookAtSpot_34 : decode b_X_lookAtSpot 34 = .ok (.iload_n 2, 1) := by decide +kernel
theorem d_X_lookAtSpot_35 : decode b_X_lookAtSpot 35 = .ok (.iload_n 3, 1) := by decide +kernel
theorem d_X_lookAtSpot_36 : decode b_X_lookAtSpot 36 = .ok (.if_icmp .ne 5, 3) := by decide +kernel
theorem d_X_lookAtSpot_39 : decode b_X_lookAtSpot 39 = .ok (.iconst 0, 1) := by decide +kernel
theorem d_X_lookAtSpot_40 : decode b_X_lookAtSpot 40 = .ok (.ireturn, 1) := by decide +kernel
theorem d_X_lookAtSpot_41 : decode b_X_lookAtSpot 41 = .ok (.iload_n 2, 1) := by decide +kernel
theorem d_X_lookAtSpot_42 : decode b_X_lookAtSpot 42 = .ok (.ifCond .eq 7, 3) := by decide +kernel
theorem d_X_lookAtSpot_45 : decode b_X_lookAtSpot 45 = .ok (.iconst 1, 1) := by decide +kernel
theorem d_X_lookAtSpot_46 : decode b_X_lookAtSpot 46 = .ok (.goto 4, 3) := by decide +kernel
theorem d_X_lookAtSpot_49 : decode b_X_lookAtSpot 49 = .ok (.iconst (-1), 1) := by decide +kernel
theorem d_X_lookAtSpot_50 : decode b_X_lookAtSpot 50 = .ok (.ireturn, 1) := by decide +kernel
theorem d_X_topHas_0 : decode b_X_topHas 0 = .ok (.iload_n 1, 1) := by decide +kernel
theorem d_X_topHas_1 : decode b_X_topHas 1 = .ok (.invokestatic 180, 3) := by decide +kernel
theorem d_X_topHas_4 : decode b_X_topHas 4 = .ok (.ifCond .eq 28, 3) := by decide +kernel
theorem d_X_topHas_7 : decode b_X_topHas 7 = .ok (.aload_n 0, 1) := by decide +kernel
theorem d_X_topHas_8 : decode b_X_topHas 8 = .ok (.getfield 18, 3) := by decide +kernel
theorem d_X_topHas_11 : decode b_X_topHas 11 = .ok (.aload_n 0, 1) := by decide +kernel
theorem d_X_topHas_12 : decode b_X_topHas 12 = .ok (.getfield 30, 3) := by decide +kernel
theorem d_X_topHas_15 : decode b_X_topHas 15 = .ok (.iconst 1, 1) := by decide +kernel
theorem d_X_topHas_16 : decode b_X_topHas 16 = .ok (.isub, 1) := by decide +kernel
theorem d_X_topHas_17 : decode b_X_topHas 17 = .ok (.aaload, 1) := by decide +kernel
theorem d_X_topHas_18 : decode b_X_topHas 18 = .ok (.iload_n 1, 1) := by decide +kernel
theorem d_X_topHas_19 : decode b_X_topHas 19 = .ok (.invokestatic 183, 3) := by decide +kernel
theorem d_X_topHas_22 : decode b_X_topHas 22 = .ok (.invokevirtual 186, 3) := by decide +kernel
theorem d_X_topHas_25 : decode b_X_topHas 25 = .ok (.ifCond .eq 7, 3) := by decide +kernel
theorem d_X_topHas_28 : decode b_X_topHas 28 = .ok (.iconst 1, 1) := by decide +kernel
theorem d_X_topHas_29 : decode b_X_topHas 29 = .ok (.goto 4, 3) := by decide +kernel
theorem d_X_topHas_32 : decode b_X_topHas 32 = .ok (.iconst 0, 1) := by decide +kernel
theorem d_X_topHas_33 : decode b_X_topHas 33 = .ok (.ireturn, 1) := by decide +kernel
theorem d_X_requireRoom_0 : decode b_X_requireRoom 0 = .ok (.aload_n 0, 1) := by decide +kernel
theorem d_X_requireRoom_1 : decode b_X_requireRoom 1 = .ok (.getfield 30, 3) := by decide +kernel
theorem d_X_requireRoom_4 : decode b_X_requireRoom 4 = .ok (.bipush 6, 2) := by decide +kernel
theorem d_X_requireRoom_6 : decode b_X_requireRoom 6 = .ok (.if_icmp .lt 13, 3) := by decide +kernel
theorem d_X_requireRoom_9 : decode b_X_requireRoom 9 = .ok (.new 55, 3) := by decide +kernel
theorem d_X_requireRoom_12 : decode b_X_requireRoom 12 = .ok (.dup, 1) := by decide +kernel
theorem d_X_requireRoom_13 : decode b_X_requireRoom 13 = .ok (.ldc 189, 2) := by decide +kernel
theorem d_X_requireRoom_15 : decode b_X_requireRoom 15 = .ok (.invokespecial 59, 3) := by decide +kernel
theorem d_X_requireRoom_18 : decode b_X_requireRoom 18 = .ok (.athrow, 1) := by decide +kernel
theorem d_X_requireRoom_19 : decode b_X_requireRoom 19 = .ok (.return_, 1) := by decide +kernel
theorem d_X_requireSolid_0 : decode b_X_requireSolid 0 = .ok (.aload_n 0, 1) := by decide +kernel
theorem d_X_requireSolid_1 : decode b_X_requireSolid 1 = .ok (.getfield 30, 3) := by decide +kernel
theorem d_X_requireSolid_4 : decode b_X_requireSolid 4 = .ok (.ifCond .ne 13, 3) := by decide +kernel
theorem d_X_requireSolid_7 : decode b_X_requireSolid 7 = .ok (.new 55, 3) := by decide +kernel
theorem d_X_requireSolid_10 : decode b_X_requireSolid 10 = .ok (.dup, 1) := by decide +kernel
theorem d_X_requireSolid_11 : decode b_X_requireSolid 11 = .ok (.ldc 191, 2) := by decide +kernel
theorem d_X_requireSolid_13 : decode b_X_requireSolid 13 = .ok (.invokespecial 59, 3) := by decide +kernel
theorem d_X_requireSolid_16 : decode b_X_requireSolid 16 = .ok (.athrow, 1) := by decide +kernel
theorem d_X_requireSolid_17 : decode b_X_requireSolid 17 = .ok (.return_, 1) := by decide +kernel
theorem d_X_requirePoint_0 : decode b_X_requirePoint 0 = .ok (.iload_n 3, 1) := by decide +kernel
theorem d_X_requirePoint_1 : decode b_X_requirePoint 1 = .ok (.iconst 1, 1) := by decide +kernel
theorem d_X_requirePoint_2 : decode b_X_requirePoint 2 = .ok (.if_icmp .lt 10, 3) := by decide +kernel
theorem d_X_requirePoint_5 : decode b_X_requirePoint 5 = .ok (.iload_n 3, 1) := by decide +kernel
theorem d_X_requirePoint_6 : decode b_X_requirePoint 6 = .ok (.sipush 1000, 3) := by decide +kernel
theorem d_X_requirePoint_9 : decode b_X_requirePoint 9 = .ok (.if_icmp .le 13, 3) := by decide +kernel
theorem d_X_requirePoint_12 : decode b_X_requirePoint 12 = .ok (.new 34, 3) := by decide +kernel
theorem d_X_requirePoint_15 : decode b_X_requirePoint 15 = .ok (.dup, 1) := by decide +kernel
theorem d_X_requirePoint_16 : decode b_X_requirePoint 16 = .ok (.ldc 193, 2) := by decide +kernel
theorem d_X_requirePoint_18 : decode b_X_requirePoint 18 = .ok (.invokespecial 38, 3) := by decide +kernel
theorem d_X_requirePoint_21 : decode b_X_requirePoint 21 = .ok (.athrow, 1) := by decide +kernel
theorem d_X_requirePoint_22 : decode b_X_requirePoint 22 = .ok (.iload_n 0, 1) := by decide +kernel
theorem d_X_requirePoint_23 : decode b_X_requirePoint 23 = .ok (.ldc 41, 2) := by decide +kernel
theorem d_X_requirePoint_25 : decode b_X_requirePoint 25 = .ok (.invokestatic 42, 3) := by decide +kernel
theorem d_X_requirePoint_28 : decode b_X_requirePoint 28 = .ok (.ifCond .ne 21, 3) := by decide +kernel
theorem d_X_requirePoint_31 : decode b_X_requirePoint 31 = .ok (.iload_n 1, 1) := by decide +kernel
theorem d_X_requirePoint_32 : decode b_X_requirePoint 32 = .ok (.ldc 41, 2) := by decide +kernel
theorem d_X_requirePoint_34 : decode b_X_requirePoint 34 = .ok (.invokestatic 42, 3) := by decide +kernel
theorem d_X_requirePoint_37 : decode b_X_requirePoint 37 = .ok (.ifCond .ne 12, 3) := by decide +kernel
theorem d_X_requirePoint_40 : decode b_X_requirePoint 40 = .ok (.iload_n 2, 1) := by decide +kernel
theorem d_X_requirePoint_41 : decode b_X_requirePoint 41 = .ok (.ldc 41, 2) := by decide +kernel
theorem d_X_requirePoint_43 : decode b_X_requirePoint 43 = .ok (.invokestatic 42, 3) := by decide +kernel
theorem d_X_requirePoint_46 : decode b_X_requirePoint 46 = .ok (.ifCond .eq 13, 3) := by decide +kernel
theorem d_X_requirePoint_49 : decode b_X_requirePoint 49 = .ok (.new 34, 3) := by decide +kernel
theorem d_X_requirePoint_52 : decode b_X_requirePoint 52 = .ok (.dup, 1) := by decide +kernel
theorem d_X_requirePoint_53 : decode b_X_requirePoint 53 = .ok (.ldc 195, 2) := by decide +kernel
theorem d_X_requirePoint_55 : decode b_X_requirePoint 55 = .ok (.invokespecial 38, 3) := by decide +kernel
theorem d_X_requirePoint_58 : decode b_X_requirePoint 58 = .ok (.athrow, 1) := by decide +kernel
theorem d_X_requirePoint_59 : decode b_X_requirePoint 59 = .ok (.return_, 1) := by decide +kernel
theorem d_X_isBeyond_0 : decode b_X_isBeyond 0 = .ok (.iload_n 0, 1) := by decide +kernel
theorem d_X_isBeyond_1 : decode b_X_isBeyond 1 = .ok (.iload_n 1, 1) := by decide +kernel
theorem d_X_isBeyond_2 : decode b_X_isBeyond 2 = .ok (.ineg, 1) := by decide +kernel
theorem d_X_isBeyond_3 : decode b_X_isBeyond 3 = .ok (.if_icmp .lt 8, 3) := by decide +kernel
theorem d_X_isBeyond_6 : decode b_X_isBeyond 6 = .ok (.iload_n 0, 1) := by decide +kernel
theorem d_X_isBeyond_7 : decode b_X_isBeyond 7 = .ok (.iload_n 1, 1) := by decide +kernel
theorem d_X_isBeyond_8 : decode b_X_isBeyond 8 = .ok (.if_icmp .le 7, 3) := by decide +kernel
theorem d_X_isBeyond_11 : decode b_X_isBeyond 11 = .ok (.iconst 1, 1) := by decide +kernel
theorem d_X_isBeyond_12 : decode b_X_isBeyond 12 = .ok (.goto 4, 3) := by decide +kernel
theorem d_X_isBeyond_15 : decode b_X_isBeyond 15 = .ok (.iconst 0, 1) := by decide +kernel
theorem d_X_isBeyond_16 : decode b_X_isBeyond 16 = .ok (.ireturn, 1) := by decide +kernel
