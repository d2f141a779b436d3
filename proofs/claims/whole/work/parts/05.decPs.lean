/-! Decode rows of Ps. -/
theorem d_Ps_init_0 : decode b_Ps_init 0 = .ok (.aload_n 0, 1) := by decide +kernel
theorem d_Ps_init_1 : decode b_Ps_init 1 = .ok (.invokespecial 3, 3) := by decide +kernel
theorem d_Ps_init_4 : decode b_Ps_init 4 = .ok (.aload_n 0, 1) := by decide +kernel
theorem d_Ps_init_5 : decode b_Ps_init 5 = .ok (.bipush 14, 2) := by decide +kernel
theorem d_Ps_init_7 : decode b_Ps_init 7 = .ok (.anewarray 9, 3) := by decide +kernel
theorem d_Ps_init_10 : decode b_Ps_init 10 = .ok (.putfield 11, 3) := by decide +kernel
theorem d_Ps_init_13 : decode b_Ps_init 13 = .ok (.aload_n 0, 1) := by decide +kernel
theorem d_Ps_init_14 : decode b_Ps_init 14 = .ok (.bipush 14, 2) := by decide +kernel
theorem d_Ps_init_16 : decode b_Ps_init 16 = .ok (.newarray .int, 2) := by decide +kernel
theorem d_Ps_init_18 : decode b_Ps_init 18 = .ok (.putfield 15, 3) := by decide +kernel
theorem d_Ps_init_21 : decode b_Ps_init 21 = .ok (.aload_n 0, 1) := by decide +kernel
theorem d_Ps_init_22 : decode b_Ps_init 22 = .ok (.iconst 0, 1) := by decide +kernel
theorem d_Ps_init_23 : decode b_Ps_init 23 = .ok (.putfield 19, 3) := by decide +kernel
theorem d_Ps_init_26 : decode b_Ps_init 26 = .ok (.aload_n 0, 1) := by decide +kernel
theorem d_Ps_init_27 : decode b_Ps_init 27 = .ok (.new 9, 3) := by decide +kernel
theorem d_Ps_init_30 : decode b_Ps_init 30 = .ok (.dup, 1) := by decide +kernel
theorem d_Ps_init_31 : decode b_Ps_init 31 = .ok (.lconst 1, 1) := by decide +kernel
theorem d_Ps_init_32 : decode b_Ps_init 32 = .ok (.lconst 0, 1) := by decide +kernel
theorem d_Ps_init_33 : decode b_Ps_init 33 = .ok (.lconst 0, 1) := by decide +kernel
theorem d_Ps_init_34 : decode b_Ps_init 34 = .ok (.ldc2_w 23, 3) := by decide +kernel
theorem d_Ps_init_37 : decode b_Ps_init 37 = .ok (.invokespecial 25, 3) := by decide +kernel
theorem d_Ps_init_40 : decode b_Ps_init 40 = .ok (.invokevirtual 28, 3) := by decide +kernel
theorem d_Ps_init_43 : decode b_Ps_init 43 = .ok (.aload_n 0, 1) := by decide +kernel
theorem d_Ps_init_44 : decode b_Ps_init 44 = .ok (.new 9, 3) := by decide +kernel
theorem d_Ps_init_47 : decode b_Ps_init 47 = .ok (.dup, 1) := by decide +kernel
theorem d_Ps_init_48 : decode b_Ps_init 48 = .ok (.ldc2_w 32, 3) := by decide +kernel
theorem d_Ps_init_51 : decode b_Ps_init 51 = .ok (.lconst 0, 1) := by decide +kernel
theorem d_Ps_init_52 : decode b_Ps_init 52 = .ok (.lconst 0, 1) := by decide +kernel
theorem d_Ps_init_53 : decode b_Ps_init 53 = .ok (.ldc2_w 23, 3) := by decide +kernel
theorem d_Ps_init_56 : decode b_Ps_init 56 = .ok (.invokespecial 25, 3) := by decide +kernel
theorem d_Ps_init_59 : decode b_Ps_init 59 = .ok (.invokevirtual 28, 3) := by decide +kernel
theorem d_Ps_init_62 : decode b_Ps_init 62 = .ok (.aload_n 0, 1) := by decide +kernel
theorem d_Ps_init_63 : decode b_Ps_init 63 = .ok (.new 9, 3) := by decide +kernel
theorem d_Ps_init_66 : decode b_Ps_init 66 = .ok (.dup, 1) := by decide +kernel
theorem d_Ps_init_67 : decode b_Ps_init 67 = .ok (.lconst 0, 1) := by decide +kernel
theorem d_Ps_init_68 : decode b_Ps_init 68 = .ok (.lconst 1, 1) := by decide +kernel
theorem d_Ps_init_69 : decode b_Ps_init 69 = .ok (.lconst 0, 1) := by decide +kernel
theorem d_Ps_init_70 : decode b_Ps_init 70 = .ok (.ldc2_w 23, 3) := by decide +kernel
theorem d_Ps_init_73 : decode b_Ps_init 73 = .ok (.invokespecial 25, 3) := by decide +kernel
theorem d_Ps_init_76 : decode b_Ps_init 76 = .ok (.invokevirtual 28, 3) := by decide +kernel
theorem d_Ps_init_79 : decode b_Ps_init 79 = .ok (.aload_n 0, 1) := by decide +kernel
theorem d_Ps_init_80 : decode b_Ps_init 80 = .ok (.new 9, 3) := by decide +kernel
theorem d_Ps_init_83 : decode b_Ps_init 83 = .ok (.dup, 1) := by decide +kernel
theorem d_Ps_init_84 : decode b_Ps_init 84 = .ok (.lconst 0, 1) := by decide +kernel
theorem d_Ps_init_85 : decode b_Ps_init 85 = .ok (.ldc2_w 32, 3) := by decide +kernel
theorem d_Ps_init_88 : decode b_Ps_init 88 = .ok (.lconst 0, 1) := by decide +kernel
theorem d_Ps_init_89 : decode b_Ps_init 89 = .ok (.ldc2_w 23, 3) := by decide +kernel
theorem d_Ps_init_92 : decode b_Ps_init 92 = .ok (.invokespecial 25, 3) := by decide +kernel
theorem d_Ps_init_95 : decode b_Ps_init 95 = .ok (.invokevirtual 28, 3) := by decide +kernel
theorem d_Ps_init_98 : decode b_Ps_init 98 = .ok (.aload_n 0, 1) := by decide +kernel
theorem d_Ps_init_99 : decode b_Ps_init 99 = .ok (.new 9, 3) := by decide +kernel
theorem d_Ps_init_102 : decode b_Ps_init 102 = .ok (.dup, 1) := by decide +kernel
theorem d_Ps_init_103 : decode b_Ps_init 103 = .ok (.lconst 0, 1) := by decide +kernel
theorem d_Ps_init_104 : decode b_Ps_init 104 = .ok (.lconst 0, 1) := by decide +kernel
theorem d_Ps_init_105 : decode b_Ps_init 105 = .ok (.lconst 1, 1) := by decide +kernel
theorem d_Ps_init_106 : decode b_Ps_init 106 = .ok (.ldc2_w 23, 3) := by decide +kernel
theorem d_Ps_init_109 : decode b_Ps_init 109 = .ok (.invokespecial 25, 3) := by decide +kernel
theorem d_Ps_init_112 : decode b_Ps_init 112 = .ok (.invokevirtual 28, 3) := by decide +kernel
theorem d_Ps_init_115 : decode b_Ps_init 115 = .ok (.aload_n 0, 1) := by decide +kernel
theorem d_Ps_init_116 : decode b_Ps_init 116 = .ok (.new 9, 3) := by decide +kernel
theorem d_Ps_init_119 : decode b_Ps_init 119 = .ok (.dup, 1) := by decide +kernel
theorem d_Ps_init_120 : decode b_Ps_init 120 = .ok (.lconst 0, 1) := by decide +kernel
theorem d_Ps_init_121 : decode b_Ps_init 121 = .ok (.lconst 0, 1) := by decide +kernel
theorem d_Ps_init_122 : decode b_Ps_init 122 = .ok (.ldc2_w 32, 3) := by decide +kernel
theorem d_Ps_init_125 : decode b_Ps_init 125 = .ok (.ldc2_w 23, 3) := by decide +kernel
theorem d_Ps_init_128 : decode b_Ps_init 128 = .ok (.invokespecial 25, 3) := by decide +kernel
theorem d_Ps_init_131 : decode b_Ps_init 131 = .ok (.invokevirtual 28, 3) := by decide +kernel
theorem d_Ps_init_134 : decode b_Ps_init 134 = .ok (.return_, 1) := by decide +kernel
theorem d_Ps_isCellInBox_0 : decode b_Ps_isCellInBox 0 = .ok (.iload_n 0, 1) := by decide +kernel
theorem d_Ps_isCellInBox_1 : decode b_Ps_isCellInBox 1 = .ok (.bipush 63, 2) := by decide +kernel
theorem d_Ps_isCellInBox_3 : decode b_Ps_isCellInBox 3 = .ok (.iand, 1) := by decide +kernel
theorem d_Ps_isCellInBox_4 : decode b_Ps_isCellInBox 4 = .ok (.bipush 63, 2) := by decide +kernel
theorem d_Ps_isCellInBox_6 : decode b_Ps_isCellInBox 6 = .ok (.if_icmp .ne 7, 3) := by decide +kernel
theorem d_Ps_isCellInBox_9 : decode b_Ps_isCellInBox 9 = .ok (.iconst 1, 1) := by decide +kernel
theorem d_Ps_isCellInBox_10 : decode b_Ps_isCellInBox 10 = .ok (.goto 4, 3) := by decide +kernel
theorem d_Ps_isCellInBox_13 : decode b_Ps_isCellInBox 13 = .ok (.iconst 0, 1) := by decide +kernel
theorem d_Ps_isCellInBox_14 : decode b_Ps_isCellInBox 14 = .ok (.ireturn, 1) := by decide +kernel
theorem d_Ps_givenOfCell_0 : decode b_Ps_givenOfCell 0 = .ok (.iload_n 0, 1) := by decide +kernel
theorem d_Ps_givenOfCell_1 : decode b_Ps_givenOfCell 1 = .ok (.bipush 6, 2) := by decide +kernel
theorem d_Ps_givenOfCell_3 : decode b_Ps_givenOfCell 3 = .ok (.ishr, 1) := by decide +kernel
theorem d_Ps_givenOfCell_4 : decode b_Ps_givenOfCell 4 = .ok (.ireturn, 1) := by decide +kernel
theorem d_Ps_add_0 : decode b_Ps_add 0 = .ok (.aload_n 0, 1) := by decide +kernel
theorem d_Ps_add_1 : decode b_Ps_add 1 = .ok (.getfield 11, 3) := by decide +kernel
theorem d_Ps_add_4 : decode b_Ps_add 4 = .ok (.aload_n 0, 1) := by decide +kernel
theorem d_Ps_add_5 : decode b_Ps_add 5 = .ok (.getfield 19, 3) := by decide +kernel
theorem d_Ps_add_8 : decode b_Ps_add 8 = .ok (.aload_n 1, 1) := by decide +kernel
theorem d_Ps_add_9 : decode b_Ps_add 9 = .ok (.aastore, 1) := by decide +kernel
theorem d_Ps_add_10 : decode b_Ps_add 10 = .ok (.aload_n 0, 1) := by decide +kernel
theorem d_Ps_add_11 : decode b_Ps_add 11 = .ok (.getfield 15, 3) := by decide +kernel
theorem d_Ps_add_14 : decode b_Ps_add 14 = .ok (.aload_n 0, 1) := by decide +kernel
theorem d_Ps_add_15 : decode b_Ps_add 15 = .ok (.getfield 19, 3) := by decide +kernel
theorem d_Ps_add_18 : decode b_Ps_add 18 = .ok (.aload_n 0, 1) := by decide +kernel
theorem d_Ps_add_19 : decode b_Ps_add 19 = .ok (.aload_n 1, 1) := by decide +kernel
theorem d_Ps_add_20 : decode b_Ps_add 20 = .ok (.invokevirtual 34, 3) := by decide +kernel
theorem d_Ps_add_23 : decode b_Ps_add 23 = .ok (.iastore, 1) := by decide +kernel
theorem d_Ps_add_24 : decode b_Ps_add 24 = .ok (.aload_n 0, 1) := by decide +kernel
theorem d_Ps_add_25 : decode b_Ps_add 25 = .ok (.dup, 1) := by decide +kernel
theorem d_Ps_add_26 : decode b_Ps_add 26 = .ok (.getfield 19, 3) := by decide +kernel
theorem d_Ps_add_29 : decode b_Ps_add 29 = .ok (.iconst 1, 1) := by decide +kernel
theorem d_Ps_add_30 : decode b_Ps_add 30 = .ok (.iadd, 1) := by decide +kernel
theorem d_Ps_add_31 : decode b_Ps_add 31 = .ok (.putfield 19, 3) := by decide +kernel
theorem d_Ps_add_34 : decode b_Ps_add 34 = .ok (.return_, 1) := by decide +kernel
theorem d_Ps_firstOneWith_0 : decode b_Ps_firstOneWith 0 = .ok (.iconst 0, 1) := by decide +kernel
theorem d_Ps_firstOneWith_1 : decode b_Ps_firstOneWith 1 = .ok (.istore_n 2, 1) := by decide +kernel
theorem d_Ps_firstOneWith_2 : decode b_Ps_firstOneWith 2 = .ok (.iload_n 2, 1) := by decide +kernel
theorem d_Ps_firstOneWith_3 : decode b_Ps_firstOneWith 3 = .ok (.aload_n 0, 1) := by decide +kernel
theorem d_Ps_firstOneWith_4 : decode b_Ps_firstOneWith 4 = .ok (.getfield 19, 3) := by decide +kernel
theorem d_Ps_firstOneWith_7 : decode b_Ps_firstOneWith 7 = .ok (.if_icmp .ge 24, 3) := by decide +kernel
theorem d_Ps_firstOneWith_10 : decode b_Ps_firstOneWith 10 = .ok (.aload_n 0, 1) := by decide +kernel
theorem d_Ps_firstOneWith_11 : decode b_Ps_firstOneWith 11 = .ok (.getfield 11, 3) := by decide +kernel
theorem d_Ps_firstOneWith_14 : decode b_Ps_firstOneWith 14 = .ok (.iload_n 2, 1) := by decide +kernel
theorem d_Ps_firstOneWith_15 : decode b_Ps_firstOneWith 15 = .ok (.aaload, 1) := by decide +kernel
theorem d_Ps_firstOneWith_16 : decode b_Ps_firstOneWith 16 = .ok (.aload_n 1, 1) := by decide +kernel
theorem d_Ps_firstOneWith_17 : decode b_Ps_firstOneWith 17 = .ok (.invokevirtual 38, 3) := by decide +kernel
theorem d_Ps_firstOneWith_20 : decode b_Ps_firstOneWith 20 = .ok (.ifCond .eq 5, 3) := by decide +kernel
theorem d_Ps_firstOneWith_23 : decode b_Ps_firstOneWith 23 = .ok (.iload_n 2, 1) := by decide +kernel
theorem d_Ps_firstOneWith_24 : decode b_Ps_firstOneWith 24 = .ok (.ireturn, 1) := by decide +kernel
theorem d_Ps_firstOneWith_25 : decode b_Ps_firstOneWith 25 = .ok (.iinc 2 1, 3) := by decide +kernel
theorem d_Ps_firstOneWith_28 : decode b_Ps_firstOneWith 28 = .ok (.goto (-26), 3) := by decide +kernel
theorem d_Ps_firstOneWith_31 : decode b_Ps_firstOneWith 31 = .ok (.aload_n 0, 1) := by decide +kernel
theorem d_Ps_firstOneWith_32 : decode b_Ps_firstOneWith 32 = .ok (.getfield 19, 3) := by decide +kernel
theorem d_Ps_firstOneWith_35 : decode b_Ps_firstOneWith 35 = .ok (.ireturn, 1) := by decide +kernel
theorem d_Ps_count_0 : decode b_Ps_count 0 = .ok (.aload_n 0, 1) := by decide +kernel
theorem d_Ps_count_1 : decode b_Ps_count 1 = .ok (.getfield 19, 3) := by decide +kernel
theorem d_Ps_count_4 : decode b_Ps_count 4 = .ok (.ireturn, 1) := by decide +kernel
theorem d_Ps_given_0 : decode b_Ps_given 0 = .ok (.aload_n 0, 1) := by decide +kernel
theorem d_Ps_given_1 : decode b_Ps_given 1 = .ok (.getfield 19, 3) := by decide +kernel
theorem d_Ps_given_4 : decode b_Ps_given 4 = .ok (.bipush 6, 2) := by decide +kernel
theorem d_Ps_given_6 : decode b_Ps_given 6 = .ok (.isub, 1) := by decide +kernel
theorem d_Ps_given_7 : decode b_Ps_given 7 = .ok (.ireturn, 1) := by decide +kernel
theorem d_Ps_get_0 : decode b_Ps_get 0 = .ok (.aload_n 0, 1) := by decide +kernel
theorem d_Ps_get_1 : decode b_Ps_get 1 = .ok (.getfield 11, 3) := by decide +kernel
theorem d_Ps_get_4 : decode b_Ps_get 4 = .ok (.iload_n 1, 1) := by decide +kernel
theorem d_Ps_get_5 : decode b_Ps_get 5 = .ok (.aaload, 1) := by decide +kernel
theorem d_Ps_get_6 : decode b_Ps_get 6 = .ok (.areturn, 1) := by decide +kernel
theorem d_Ps_isFirst_0 : decode b_Ps_isFirst 0 = .ok (.aload_n 0, 1) := by decide +kernel
theorem d_Ps_isFirst_1 : decode b_Ps_isFirst 1 = .ok (.getfield 15, 3) := by decide +kernel
theorem d_Ps_isFirst_4 : decode b_Ps_isFirst 4 = .ok (.iload_n 1, 1) := by decide +kernel
theorem d_Ps_isFirst_5 : decode b_Ps_isFirst 5 = .ok (.iaload, 1) := by decide +kernel
theorem d_Ps_isFirst_6 : decode b_Ps_isFirst 6 = .ok (.iload_n 1, 1) := by decide +kernel
theorem d_Ps_isFirst_7 : decode b_Ps_isFirst 7 = .ok (.if_icmp .ne 7, 3) := by decide +kernel
theorem d_Ps_isFirst_10 : decode b_Ps_isFirst 10 = .ok (.iconst 1, 1) := by decide +kernel
theorem d_Ps_isFirst_11 : decode b_Ps_isFirst 11 = .ok (.goto 4, 3) := by decide +kernel
theorem d_Ps_isFirst_14 : decode b_Ps_isFirst 14 = .ok (.iconst 0, 1) := by decide +kernel
theorem d_Ps_isFirst_15 : decode b_Ps_isFirst 15 = .ok (.ireturn, 1) := by decide +kernel
theorem d_Ps_isInBox_0 : decode b_Ps_isInBox 0 = .ok (.iconst 0, 1) := by decide +kernel
theorem d_Ps_isInBox_1 : decode b_Ps_isInBox 1 = .ok (.istore_n 2, 1) := by decide +kernel
theorem d_Ps_isInBox_2 : decode b_Ps_isInBox 2 = .ok (.iload_n 2, 1) := by decide +kernel
theorem d_Ps_isInBox_3 : decode b_Ps_isInBox 3 = .ok (.bipush 6, 2) := by decide +kernel
theorem d_Ps_isInBox_5 : decode b_Ps_isInBox 5 = .ok (.if_icmp .ge 26, 3) := by decide +kernel
theorem d_Ps_isInBox_8 : decode b_Ps_isInBox 8 = .ok (.aload_n 0, 1) := by decide +kernel
theorem d_Ps_isInBox_9 : decode b_Ps_isInBox 9 = .ok (.getfield 11, 3) := by decide +kernel
theorem d_Ps_isInBox_12 : decode b_Ps_isInBox 12 = .ok (.iload_n 2, 1) := by decide +kernel
theorem d_Ps_isInBox_13 : decode b_Ps_isInBox 13 = .ok (.aaload, 1) := by decide +kernel
theorem d_Ps_isInBox_14 : decode b_Ps_isInBox 14 = .ok (.aload_n 1, 1) := by decide +kernel
theorem d_Ps_isInBox_15 : decode b_Ps_isInBox 15 = .ok (.invokevirtual 42, 3) := by decide +kernel
theorem d_Ps_isInBox_18 : decode b_Ps_isInBox 18 = .ok (.lconst 0, 1) := by decide +kernel
theorem d_Ps_isInBox_19 : decode b_Ps_isInBox 19 = .ok (.lcmp, 1) := by decide +kernel
theorem d_Ps_isInBox_20 : decode b_Ps_isInBox 20 = .ok (.ifCond .le 5, 3) := by decide +kernel
theorem d_Ps_isInBox_23 : decode b_Ps_isInBox 23 = .ok (.iconst 0, 1) := by decide +kernel
theorem d_Ps_isInBox_24 : decode b_Ps_isInBox 24 = .ok (.ireturn, 1) := by decide +kernel
theorem d_Ps_isInBox_25 : decode b_Ps_isInBox 25 = .ok (.iinc 2 1, 3) := by decide +kernel
theorem d_Ps_isInBox_28 : decode b_Ps_isInBox 28 = .ok (.goto (-26), 3) := by decide +kernel
theorem d_Ps_isInBox_31 : decode b_Ps_isInBox 31 = .ok (.iconst 1, 1) := by decide +kernel
theorem d_Ps_isInBox_32 : decode b_Ps_isInBox 32 = .ok (.ireturn, 1) := by decide +kernel
theorem d_Ps_isOnAny_0 : decode b_Ps_isOnAny 0 = .ok (.iconst 0, 1) := by decide +kernel
theorem d_Ps_isOnAny_1 : decode b_Ps_isOnAny 1 = .ok (.istore_n 2, 1) := by decide +kernel
theorem d_Ps_isOnAny_2 : decode b_Ps_isOnAny 2 = .ok (.iload_n 2, 1) := by decide +kernel
theorem d_Ps_isOnAny_3 : decode b_Ps_isOnAny 3 = .ok (.aload_n 0, 1) := by decide +kernel
theorem d_Ps_isOnAny_4 : decode b_Ps_isOnAny 4 = .ok (.getfield 19, 3) := by decide +kernel
theorem d_Ps_isOnAny_7 : decode b_Ps_isOnAny 7 = .ok (.if_icmp .ge 26, 3) := by decide +kernel
theorem d_Ps_isOnAny_10 : decode b_Ps_isOnAny 10 = .ok (.aload_n 0, 1) := by decide +kernel
theorem d_Ps_isOnAny_11 : decode b_Ps_isOnAny 11 = .ok (.getfield 11, 3) := by decide +kernel
theorem d_Ps_isOnAny_14 : decode b_Ps_isOnAny 14 = .ok (.iload_n 2, 1) := by decide +kernel
theorem d_Ps_isOnAny_15 : decode b_Ps_isOnAny 15 = .ok (.aaload, 1) := by decide +kernel
theorem d_Ps_isOnAny_16 : decode b_Ps_isOnAny 16 = .ok (.aload_n 1, 1) := by decide +kernel
theorem d_Ps_isOnAny_17 : decode b_Ps_isOnAny 17 = .ok (.invokevirtual 42, 3) := by decide +kernel
theorem d_Ps_isOnAny_20 : decode b_Ps_isOnAny 20 = .ok (.lconst 0, 1) := by decide +kernel
theorem d_Ps_isOnAny_21 : decode b_Ps_isOnAny 21 = .ok (.lcmp, 1) := by decide +kernel
theorem d_Ps_isOnAny_22 : decode b_Ps_isOnAny 22 = .ok (.ifCond .ne 5, 3) := by decide +kernel
theorem d_Ps_isOnAny_25 : decode b_Ps_isOnAny 25 = .ok (.iconst 1, 1) := by decide +kernel
theorem d_Ps_isOnAny_26 : decode b_Ps_isOnAny 26 = .ok (.ireturn, 1) := by decide +kernel
theorem d_Ps_isOnAny_27 : decode b_Ps_isOnAny 27 = .ok (.iinc 2 1, 3) := by decide +kernel
theorem d_Ps_isOnAny_30 : decode b_Ps_isOnAny 30 = .ok (.goto (-28), 3) := by decide +kernel
theorem d_Ps_isOnAny_33 : decode b_Ps_isOnAny 33 = .ok (.iconst 0, 1) := by decide +kernel
theorem d_Ps_isOnAny_34 : decode b_Ps_isOnAny 34 = .ok (.ireturn, 1) := by decide +kernel
theorem d_Ps_onlyOneAt_0 : decode b_Ps_onlyOneAt 0 = .ok (.iconst (-1), 1) := by decide +kernel
theorem d_Ps_onlyOneAt_1 : decode b_Ps_onlyOneAt 1 = .ok (.istore_n 2, 1) := by decide +kernel
theorem d_Ps_onlyOneAt_2 : decode b_Ps_onlyOneAt 2 = .ok (.iconst 0, 1) := by decide +kernel
theorem d_Ps_onlyOneAt_3 : decode b_Ps_onlyOneAt 3 = .ok (.istore_n 3, 1) := by decide +kernel
theorem d_Ps_onlyOneAt_4 : decode b_Ps_onlyOneAt 4 = .ok (.iload_n 3, 1) := by decide +kernel
theorem d_Ps_onlyOneAt_5 : decode b_Ps_onlyOneAt 5 = .ok (.aload_n 0, 1) := by decide +kernel
theorem d_Ps_onlyOneAt_6 : decode b_Ps_onlyOneAt 6 = .ok (.getfield 19, 3) := by decide +kernel
theorem d_Ps_onlyOneAt_9 : decode b_Ps_onlyOneAt 9 = .ok (.if_icmp .ge 48, 3) := by decide +kernel
theorem d_Ps_onlyOneAt_12 : decode b_Ps_onlyOneAt 12 = .ok (.aload_n 0, 1) := by decide +kernel
theorem d_Ps_onlyOneAt_13 : decode b_Ps_onlyOneAt 13 = .ok (.getfield 11, 3) := by decide +kernel
theorem d_Ps_onlyOneAt_16 : decode b_Ps_onlyOneAt 16 = .ok (.iload_n 3, 1) := by decide +kernel
theorem d_Ps_onlyOneAt_17 : decode b_Ps_onlyOneAt 17 = .ok (.aaload, 1) := by decide +kernel
theorem d_Ps_onlyOneAt_18 : decode b_Ps_onlyOneAt 18 = .ok (.aload_n 1, 1) := by decide +kernel
theorem d_Ps_onlyOneAt_19 : decode b_Ps_onlyOneAt 19 = .ok (.invokevirtual 42, 3) := by decide +kernel
theorem d_Ps_onlyOneAt_22 : decode b_Ps_onlyOneAt 22 = .ok (.lconst 0, 1) := by decide +kernel
theorem d_Ps_onlyOneAt_23 : decode b_Ps_onlyOneAt 23 = .ok (.lcmp, 1) := by decide +kernel
theorem d_Ps_onlyOneAt_24 : decode b_Ps_onlyOneAt 24 = .ok (.ifCond .ne 27, 3) := by decide +kernel
theorem d_Ps_onlyOneAt_27 : decode b_Ps_onlyOneAt 27 = .ok (.iload_n 2, 1) := by decide +kernel
theorem d_Ps_onlyOneAt_28 : decode b_Ps_onlyOneAt 28 = .ok (.iconst (-1), 1) := by decide +kernel
theorem d_Ps_onlyOneAt_29 : decode b_Ps_onlyOneAt 29 = .ok (.if_icmp .eq 15, 3) := by decide +kernel
theorem d_Ps_onlyOneAt_32 : decode b_Ps_onlyOneAt 32 = .ok (.iload_n 2, 1) := by decide +kernel
theorem d_Ps_onlyOneAt_33 : decode b_Ps_onlyOneAt 33 = .ok (.aload_n 0, 1) := by decide +kernel
theorem d_Ps_onlyOneAt_34 : decode b_Ps_onlyOneAt 34 = .ok (.getfield 15, 3) := by decide +kernel
theorem d_Ps_onlyOneAt_37 : decode b_Ps_onlyOneAt 37 = .ok (.iload_n 3, 1) := by decide +kernel
theorem d_Ps_onlyOneAt_38 : decode b_Ps_onlyOneAt 38 = .ok (.iaload, 1) := by decide +kernel
theorem d_Ps_onlyOneAt_39 : decode b_Ps_onlyOneAt 39 = .ok (.if_icmp .eq 5, 3) := by decide +kernel
theorem d_Ps_onlyOneAt_42 : decode b_Ps_onlyOneAt 42 = .ok (.iconst (-1), 1) := by decide +kernel
theorem d_Ps_onlyOneAt_43 : decode b_Ps_onlyOneAt 43 = .ok (.ireturn, 1) := by decide +kernel
theorem d_Ps_onlyOneAt_44 : decode b_Ps_onlyOneAt 44 = .ok (.aload_n 0, 1) := by decide +kernel
theorem d_Ps_onlyOneAt_45 : decode b_Ps_onlyOneAt 45 = .ok (.getfield 15, 3) := by decide +kernel
theorem d_Ps_onlyOneAt_48 : decode b_Ps_onlyOneAt 48 = .ok (.iload_n 3, 1) := by decide +kernel
theorem d_Ps_onlyOneAt_49 : decode b_Ps_onlyOneAt 49 = .ok (.iaload, 1) := by decide +kernel
theorem d_Ps_onlyOneAt_50 : decode b_Ps_onlyOneAt 50 = .ok (.istore_n 2, 1) := by decide +kernel
theorem d_Ps_onlyOneAt_51 : decode b_Ps_onlyOneAt 51 = .ok (.iinc 3 1, 3) := by decide +kernel
theorem d_Ps_onlyOneAt_54 : decode b_Ps_onlyOneAt 54 = .ok (.goto (-50), 3) := by decide +kernel
theorem d_Ps_onlyOneAt_57 : decode b_Ps_onlyOneAt 57 = .ok (.iload_n 2, 1) := by decide +kernel
theorem d_Ps_onlyOneAt_58 : decode b_Ps_onlyOneAt 58 = .ok (.ireturn, 1) := by decide +kernel
theorem d_Ps_cellOf_0 : decode b_Ps_cellOf 0 = .ok (.iconst 0, 1) := by decide +kernel
theorem d_Ps_cellOf_1 : decode b_Ps_cellOf 1 = .ok (.istore_n 2, 1) := by decide +kernel
theorem d_Ps_cellOf_2 : decode b_Ps_cellOf 2 = .ok (.iconst 0, 1) := by decide +kernel
theorem d_Ps_cellOf_3 : decode b_Ps_cellOf 3 = .ok (.istore_n 3, 1) := by decide +kernel
theorem d_Ps_cellOf_4 : decode b_Ps_cellOf 4 = .ok (.iload_n 3, 1) := by decide +kernel
theorem d_Ps_cellOf_5 : decode b_Ps_cellOf 5 = .ok (.aload_n 0, 1) := by decide +kernel
theorem d_Ps_cellOf_6 : decode b_Ps_cellOf 6 = .ok (.getfield 19, 3) := by decide +kernel
theorem d_Ps_cellOf_9 : decode b_Ps_cellOf 9 = .ok (.if_icmp .ge 30, 3) := by decide +kernel
theorem d_Ps_cellOf_12 : decode b_Ps_cellOf 12 = .ok (.aload_n 0, 1) := by decide +kernel
theorem d_Ps_cellOf_13 : decode b_Ps_cellOf 13 = .ok (.getfield 11, 3) := by decide +kernel
theorem d_Ps_cellOf_16 : decode b_Ps_cellOf 16 = .ok (.iload_n 3, 1) := by decide +kernel
theorem d_Ps_cellOf_17 : decode b_Ps_cellOf 17 = .ok (.aaload, 1) := by decide +kernel
theorem d_Ps_cellOf_18 : decode b_Ps_cellOf 18 = .ok (.aload_n 1, 1) := by decide +kernel
theorem d_Ps_cellOf_19 : decode b_Ps_cellOf 19 = .ok (.invokevirtual 42, 3) := by decide +kernel
theorem d_Ps_cellOf_22 : decode b_Ps_cellOf 22 = .ok (.lconst 0, 1) := by decide +kernel
theorem d_Ps_cellOf_23 : decode b_Ps_cellOf 23 = .ok (.lcmp, 1) := by decide +kernel
theorem d_Ps_cellOf_24 : decode b_Ps_cellOf 24 = .ok (.ifCond .ge 9, 3) := by decide +kernel
theorem d_Ps_cellOf_27 : decode b_Ps_cellOf 27 = .ok (.iload_n 2, 1) := by decide +kernel
theorem d_Ps_cellOf_28 : decode b_Ps_cellOf 28 = .ok (.iconst 1, 1) := by decide +kernel
theorem d_Ps_cellOf_29 : decode b_Ps_cellOf 29 = .ok (.iload_n 3, 1) := by decide +kernel
theorem d_Ps_cellOf_30 : decode b_Ps_cellOf 30 = .ok (.ishl, 1) := by decide +kernel
theorem d_Ps_cellOf_31 : decode b_Ps_cellOf 31 = .ok (.ior, 1) := by decide +kernel
theorem d_Ps_cellOf_32 : decode b_Ps_cellOf 32 = .ok (.istore_n 2, 1) := by decide +kernel
theorem d_Ps_cellOf_33 : decode b_Ps_cellOf 33 = .ok (.iinc 3 1, 3) := by decide +kernel
theorem d_Ps_cellOf_36 : decode b_Ps_cellOf 36 = .ok (.goto (-32), 3) := by decide +kernel
theorem d_Ps_cellOf_39 : decode b_Ps_cellOf 39 = .ok (.iload_n 2, 1) := by decide +kernel
theorem d_Ps_cellOf_40 : decode b_Ps_cellOf 40 = .ok (.ireturn, 1) := by decide +kernel
theorem d_Ps_cellWhereLess_0 : decode b_Ps_cellWhereLess 0 = .ok (.aload_n 0, 1) := by decide +kernel
theorem d_Ps_cellWhereLess_1 : decode b_Ps_cellWhereLess 1 = .ok (.aload_n 1, 1) := by decide +kernel
theorem d_Ps_cellWhereLess_2 : decode b_Ps_cellWhereLess 2 = .ok (.invokevirtual 46, 3) := by decide +kernel
theorem d_Ps_cellWhereLess_5 : decode b_Ps_cellWhereLess 5 = .ok (.aload_n 0, 1) := by decide +kernel
theorem d_Ps_cellWhereLess_6 : decode b_Ps_cellWhereLess 6 = .ok (.iload_n 2, 1) := by decide +kernel
theorem d_Ps_cellWhereLess_7 : decode b_Ps_cellWhereLess 7 = .ok (.iconst 1, 1) := by decide +kernel
theorem d_Ps_cellWhereLess_8 : decode b_Ps_cellWhereLess 8 = .ok (.invokevirtual 50, 3) := by decide +kernel
theorem d_Ps_cellWhereLess_11 : decode b_Ps_cellWhereLess 11 = .ok (.ior, 1) := by decide +kernel
theorem d_Ps_cellWhereLess_12 : decode b_Ps_cellWhereLess 12 = .ok (.ireturn, 1) := by decide +kernel
theorem d_Ps_cellWhereMore_0 : decode b_Ps_cellWhereMore 0 = .ok (.aload_n 0, 1) := by decide +kernel
theorem d_Ps_cellWhereMore_1 : decode b_Ps_cellWhereMore 1 = .ok (.aload_n 1, 1) := by decide +kernel
theorem d_Ps_cellWhereMore_2 : decode b_Ps_cellWhereMore 2 = .ok (.invokevirtual 46, 3) := by decide +kernel
theorem d_Ps_cellWhereMore_5 : decode b_Ps_cellWhereMore 5 = .ok (.aload_n 0, 1) := by decide +kernel
theorem d_Ps_cellWhereMore_6 : decode b_Ps_cellWhereMore 6 = .ok (.iload_n 2, 1) := by decide +kernel
theorem d_Ps_cellWhereMore_7 : decode b_Ps_cellWhereMore 7 = .ok (.iconst 0, 1) := by decide +kernel
theorem d_Ps_cellWhereMore_8 : decode b_Ps_cellWhereMore 8 = .ok (.invokevirtual 50, 3) := by decide +kernel
theorem d_Ps_cellWhereMore_11 : decode b_Ps_cellWhereMore 11 = .ok (.ior, 1) := by decide +kernel
theorem d_Ps_cellWhereMore_12 : decode b_Ps_cellWhereMore 12 = .ok (.ireturn, 1) := by decide +kernel
theorem d_Ps_halfSpacesAlong_0 : decode b_Ps_halfSpacesAlong 0 = .ok (.iconst 0, 1) := by decide +kernel
theorem d_Ps_halfSpacesAlong_1 : decode b_Ps_halfSpacesAlong 1 = .ok (.istore_n 3, 1) := by decide +kernel
theorem d_Ps_halfSpacesAlong_2 : decode b_Ps_halfSpacesAlong 2 = .ok (.iconst 0, 1) := by decide +kernel
theorem d_Ps_halfSpacesAlong_3 : decode b_Ps_halfSpacesAlong 3 = .ok (.istore 4, 2) := by decide +kernel
theorem d_Ps_halfSpacesAlong_5 : decode b_Ps_halfSpacesAlong 5 = .ok (.iload 4, 2) := by decide +kernel
theorem d_Ps_halfSpacesAlong_7 : decode b_Ps_halfSpacesAlong 7 = .ok (.aload_n 0, 1) := by decide +kernel
theorem d_Ps_halfSpacesAlong_8 : decode b_Ps_halfSpacesAlong 8 = .ok (.getfield 19, 3) := by decide +kernel
theorem d_Ps_halfSpacesAlong_11 : decode b_Ps_halfSpacesAlong 11 = .ok (.if_icmp .ge 47, 3) := by decide +kernel
theorem d_Ps_halfSpacesAlong_14 : decode b_Ps_halfSpacesAlong 14 = .ok (.aload_n 0, 1) := by decide +kernel
theorem d_Ps_halfSpacesAlong_15 : decode b_Ps_halfSpacesAlong 15 = .ok (.getfield 15, 3) := by decide +kernel
theorem d_Ps_halfSpacesAlong_18 : decode b_Ps_halfSpacesAlong 18 = .ok (.iload 4, 2) := by decide +kernel
theorem d_Ps_halfSpacesAlong_20 : decode b_Ps_halfSpacesAlong 20 = .ok (.iaload, 1) := by decide +kernel
theorem d_Ps_halfSpacesAlong_21 : decode b_Ps_halfSpacesAlong 21 = .ok (.iload_n 1, 1) := by decide +kernel
theorem d_Ps_halfSpacesAlong_22 : decode b_Ps_halfSpacesAlong 22 = .ok (.if_icmp .ne 30, 3) := by decide +kernel
theorem d_Ps_halfSpacesAlong_25 : decode b_Ps_halfSpacesAlong 25 = .ok (.aload_n 0, 1) := by decide +kernel
theorem d_Ps_halfSpacesAlong_26 : decode b_Ps_halfSpacesAlong 26 = .ok (.getfield 11, 3) := by decide +kernel
theorem d_Ps_halfSpacesAlong_29 : decode b_Ps_halfSpacesAlong 29 = .ok (.iload 4, 2) := by decide +kernel
theorem d_Ps_halfSpacesAlong_31 : decode b_Ps_halfSpacesAlong 31 = .ok (.aaload, 1) := by decide +kernel
theorem d_Ps_halfSpacesAlong_32 : decode b_Ps_halfSpacesAlong 32 = .ok (.aload_n 0, 1) := by decide +kernel
theorem d_Ps_halfSpacesAlong_33 : decode b_Ps_halfSpacesAlong 33 = .ok (.getfield 11, 3) := by decide +kernel
theorem d_Ps_halfSpacesAlong_36 : decode b_Ps_halfSpacesAlong 36 = .ok (.iload_n 1, 1) := by decide +kernel
theorem d_Ps_halfSpacesAlong_37 : decode b_Ps_halfSpacesAlong 37 = .ok (.aaload, 1) := by decide +kernel
theorem d_Ps_halfSpacesAlong_38 : decode b_Ps_halfSpacesAlong 38 = .ok (.invokevirtual 54, 3) := by decide +kernel
theorem d_Ps_halfSpacesAlong_41 : decode b_Ps_halfSpacesAlong 41 = .ok (.iload_n 2, 1) := by decide +kernel
theorem d_Ps_halfSpacesAlong_42 : decode b_Ps_halfSpacesAlong 42 = .ok (.if_icmp .ne 10, 3) := by decide +kernel
theorem d_Ps_halfSpacesAlong_45 : decode b_Ps_halfSpacesAlong 45 = .ok (.iload_n 3, 1) := by decide +kernel
theorem d_Ps_halfSpacesAlong_46 : decode b_Ps_halfSpacesAlong 46 = .ok (.iconst 1, 1) := by decide +kernel
theorem d_Ps_halfSpacesAlong_47 : decode b_Ps_halfSpacesAlong 47 = .ok (.iload 4, 2) := by decide +kernel
theorem d_Ps_halfSpacesAlong_49 : decode b_Ps_halfSpacesAlong 49 = .ok (.ishl, 1) := by decide +kernel
theorem d_Ps_halfSpacesAlong_50 : decode b_Ps_halfSpacesAlong 50 = .ok (.ior, 1) := by decide +kernel
theorem d_Ps_halfSpacesAlong_51 : decode b_Ps_halfSpacesAlong 51 = .ok (.istore_n 3, 1) := by decide +kernel
theorem d_Ps_halfSpacesAlong_52 : decode b_Ps_halfSpacesAlong 52 = .ok (.iinc 4 1, 3) := by decide +kernel
theorem d_Ps_halfSpacesAlong_55 : decode b_Ps_halfSpacesAlong 55 = .ok (.goto (-50), 3) := by decide +kernel
theorem d_Ps_halfSpacesAlong_58 : decode b_Ps_halfSpacesAlong 58 = .ok (.iload_n 3, 1) := by decide +kernel
theorem d_Ps_halfSpacesAlong_59 : decode b_Ps_halfSpacesAlong 59 = .ok (.ireturn, 1) := by decide +kernel
