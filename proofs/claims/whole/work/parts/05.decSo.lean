/-! Decode rows of So. -/
theorem d_So_init_0 : decode b_So_init 0 = .ok (.aload_n 0, 1) := by decide +kernel
theorem d_So_init_1 : decode b_So_init 1 = .ok (.invokespecial 5, 3) := by decide +kernel
theorem d_So_init_4 : decode b_So_init 4 = .ok (.aload_n 0, 1) := by decide +kernel
theorem d_So_init_5 : decode b_So_init 5 = .ok (.iconst 4, 1) := by decide +kernel
theorem d_So_init_6 : decode b_So_init 6 = .ok (.newarray .long, 2) := by decide +kernel
theorem d_So_init_8 : decode b_So_init 8 = .ok (.putfield 11, 3) := by decide +kernel
theorem d_So_init_11 : decode b_So_init 11 = .ok (.return_, 1) := by decide +kernel
theorem d_So_has_0 : decode b_So_has 0 = .ok (.aload_n 0, 1) := by decide +kernel
theorem d_So_has_1 : decode b_So_has 1 = .ok (.getfield 11, 3) := by decide +kernel
theorem d_So_has_4 : decode b_So_has 4 = .ok (.iload_n 1, 1) := by decide +kernel
theorem d_So_has_5 : decode b_So_has 5 = .ok (.bipush 6, 2) := by decide +kernel
theorem d_So_has_7 : decode b_So_has 7 = .ok (.ishr, 1) := by decide +kernel
theorem d_So_has_8 : decode b_So_has 8 = .ok (.laload, 1) := by decide +kernel
theorem d_So_has_9 : decode b_So_has 9 = .ok (.iload_n 1, 1) := by decide +kernel
theorem d_So_has_10 : decode b_So_has 10 = .ok (.lshr, 1) := by decide +kernel
theorem d_So_has_11 : decode b_So_has 11 = .ok (.lconst 1, 1) := by decide +kernel
theorem d_So_has_12 : decode b_So_has 12 = .ok (.land, 1) := by decide +kernel
theorem d_So_has_13 : decode b_So_has 13 = .ok (.lconst 0, 1) := by decide +kernel
theorem d_So_has_14 : decode b_So_has 14 = .ok (.lcmp, 1) := by decide +kernel
theorem d_So_has_15 : decode b_So_has 15 = .ok (.ifCond .eq 7, 3) := by decide +kernel
theorem d_So_has_18 : decode b_So_has 18 = .ok (.iconst 1, 1) := by decide +kernel
theorem d_So_has_19 : decode b_So_has 19 = .ok (.goto 4, 3) := by decide +kernel
theorem d_So_has_22 : decode b_So_has 22 = .ok (.iconst 0, 1) := by decide +kernel
theorem d_So_has_23 : decode b_So_has 23 = .ok (.ireturn, 1) := by decide +kernel
theorem d_So_becomeConvex_0 : decode b_So_becomeConvex 0 = .ok (.iconst 0, 1) := by decide +kernel
theorem d_So_becomeConvex_1 : decode b_So_becomeConvex 1 = .ok (.istore_n 2, 1) := by decide +kernel
theorem d_So_becomeConvex_2 : decode b_So_becomeConvex 2 = .ok (.iload_n 2, 1) := by decide +kernel
theorem d_So_becomeConvex_3 : decode b_So_becomeConvex 3 = .ok (.iconst 4, 1) := by decide +kernel
theorem d_So_becomeConvex_4 : decode b_So_becomeConvex 4 = .ok (.if_icmp .ge 16, 3) := by decide +kernel
theorem d_So_becomeConvex_7 : decode b_So_becomeConvex 7 = .ok (.aload_n 0, 1) := by decide +kernel
theorem d_So_becomeConvex_8 : decode b_So_becomeConvex 8 = .ok (.getfield 11, 3) := by decide +kernel
theorem d_So_becomeConvex_11 : decode b_So_becomeConvex 11 = .ok (.iload_n 2, 1) := by decide +kernel
theorem d_So_becomeConvex_12 : decode b_So_becomeConvex 12 = .ok (.lconst 0, 1) := by decide +kernel
theorem d_So_becomeConvex_13 : decode b_So_becomeConvex 13 = .ok (.lastore, 1) := by decide +kernel
theorem d_So_becomeConvex_14 : decode b_So_becomeConvex 14 = .ok (.iinc 2 1, 3) := by decide +kernel
theorem d_So_becomeConvex_17 : decode b_So_becomeConvex 17 = .ok (.goto (-15), 3) := by decide +kernel
theorem d_So_becomeConvex_20 : decode b_So_becomeConvex 20 = .ok (.iconst 0, 1) := by decide +kernel
theorem d_So_becomeConvex_21 : decode b_So_becomeConvex 21 = .ok (.istore_n 2, 1) := by decide +kernel
theorem d_So_becomeConvex_22 : decode b_So_becomeConvex 22 = .ok (.iload_n 2, 1) := by decide +kernel
theorem d_So_becomeConvex_23 : decode b_So_becomeConvex 23 = .ok (.sipush 256, 3) := by decide +kernel
theorem d_So_becomeConvex_26 : decode b_So_becomeConvex 26 = .ok (.if_icmp .ge 31, 3) := by decide +kernel
theorem d_So_becomeConvex_29 : decode b_So_becomeConvex 29 = .ok (.iload_n 2, 1) := by decide +kernel
theorem d_So_becomeConvex_30 : decode b_So_becomeConvex 30 = .ok (.iload_n 1, 1) := by decide +kernel
theorem d_So_becomeConvex_31 : decode b_So_becomeConvex 31 = .ok (.iand, 1) := by decide +kernel
theorem d_So_becomeConvex_32 : decode b_So_becomeConvex 32 = .ok (.iload_n 1, 1) := by decide +kernel
theorem d_So_becomeConvex_33 : decode b_So_becomeConvex 33 = .ok (.if_icmp .ne 18, 3) := by decide +kernel
theorem d_So_becomeConvex_36 : decode b_So_becomeConvex 36 = .ok (.aload_n 0, 1) := by decide +kernel
theorem d_So_becomeConvex_37 : decode b_So_becomeConvex 37 = .ok (.getfield 11, 3) := by decide +kernel
theorem d_So_becomeConvex_40 : decode b_So_becomeConvex 40 = .ok (.iload_n 2, 1) := by decide +kernel
theorem d_So_becomeConvex_41 : decode b_So_becomeConvex 41 = .ok (.bipush 6, 2) := by decide +kernel
theorem d_So_becomeConvex_43 : decode b_So_becomeConvex 43 = .ok (.ishr, 1) := by decide +kernel
theorem d_So_becomeConvex_44 : decode b_So_becomeConvex 44 = .ok (.dup2, 1) := by decide +kernel
theorem d_So_becomeConvex_45 : decode b_So_becomeConvex 45 = .ok (.laload, 1) := by decide +kernel
theorem d_So_becomeConvex_46 : decode b_So_becomeConvex 46 = .ok (.lconst 1, 1) := by decide +kernel
theorem d_So_becomeConvex_47 : decode b_So_becomeConvex 47 = .ok (.iload_n 2, 1) := by decide +kernel
theorem d_So_becomeConvex_48 : decode b_So_becomeConvex 48 = .ok (.lshl, 1) := by decide +kernel
theorem d_So_becomeConvex_49 : decode b_So_becomeConvex 49 = .ok (.lor, 1) := by decide +kernel
theorem d_So_becomeConvex_50 : decode b_So_becomeConvex 50 = .ok (.lastore, 1) := by decide +kernel
theorem d_So_becomeConvex_51 : decode b_So_becomeConvex 51 = .ok (.iinc 2 1, 3) := by decide +kernel
theorem d_So_becomeConvex_54 : decode b_So_becomeConvex 54 = .ok (.goto (-32), 3) := by decide +kernel
theorem d_So_becomeConvex_57 : decode b_So_becomeConvex 57 = .ok (.return_, 1) := by decide +kernel
theorem d_So_becomeLike_0 : decode b_So_becomeLike 0 = .ok (.iconst 0, 1) := by decide +kernel
theorem d_So_becomeLike_1 : decode b_So_becomeLike 1 = .ok (.istore_n 2, 1) := by decide +kernel
theorem d_So_becomeLike_2 : decode b_So_becomeLike 2 = .ok (.iload_n 2, 1) := by decide +kernel
theorem d_So_becomeLike_3 : decode b_So_becomeLike 3 = .ok (.iconst 4, 1) := by decide +kernel
theorem d_So_becomeLike_4 : decode b_So_becomeLike 4 = .ok (.if_icmp .ge 21, 3) := by decide +kernel
theorem d_So_becomeLike_7 : decode b_So_becomeLike 7 = .ok (.aload_n 0, 1) := by decide +kernel
theorem d_So_becomeLike_8 : decode b_So_becomeLike 8 = .ok (.getfield 11, 3) := by decide +kernel
theorem d_So_becomeLike_11 : decode b_So_becomeLike 11 = .ok (.iload_n 2, 1) := by decide +kernel
theorem d_So_becomeLike_12 : decode b_So_becomeLike 12 = .ok (.aload_n 1, 1) := by decide +kernel
theorem d_So_becomeLike_13 : decode b_So_becomeLike 13 = .ok (.getfield 11, 3) := by decide +kernel
theorem d_So_becomeLike_16 : decode b_So_becomeLike 16 = .ok (.iload_n 2, 1) := by decide +kernel
theorem d_So_becomeLike_17 : decode b_So_becomeLike 17 = .ok (.laload, 1) := by decide +kernel
theorem d_So_becomeLike_18 : decode b_So_becomeLike 18 = .ok (.lastore, 1) := by decide +kernel
theorem d_So_becomeLike_19 : decode b_So_becomeLike 19 = .ok (.iinc 2 1, 3) := by decide +kernel
theorem d_So_becomeLike_22 : decode b_So_becomeLike 22 = .ok (.goto (-20), 3) := by decide +kernel
theorem d_So_becomeLike_25 : decode b_So_becomeLike 25 = .ok (.return_, 1) := by decide +kernel
theorem d_So_becomeItsRest_0 : decode b_So_becomeItsRest 0 = .ok (.iconst 0, 1) := by decide +kernel
theorem d_So_becomeItsRest_1 : decode b_So_becomeItsRest 1 = .ok (.istore_n 1, 1) := by decide +kernel
theorem d_So_becomeItsRest_2 : decode b_So_becomeItsRest 2 = .ok (.iload_n 1, 1) := by decide +kernel
theorem d_So_becomeItsRest_3 : decode b_So_becomeItsRest 3 = .ok (.iconst 4, 1) := by decide +kernel
theorem d_So_becomeItsRest_4 : decode b_So_becomeItsRest 4 = .ok (.if_icmp .ge 25, 3) := by decide +kernel
theorem d_So_becomeItsRest_7 : decode b_So_becomeItsRest 7 = .ok (.aload_n 0, 1) := by decide +kernel
theorem d_So_becomeItsRest_8 : decode b_So_becomeItsRest 8 = .ok (.getfield 11, 3) := by decide +kernel
theorem d_So_becomeItsRest_11 : decode b_So_becomeItsRest 11 = .ok (.iload_n 1, 1) := by decide +kernel
theorem d_So_becomeItsRest_12 : decode b_So_becomeItsRest 12 = .ok (.aload_n 0, 1) := by decide +kernel
theorem d_So_becomeItsRest_13 : decode b_So_becomeItsRest 13 = .ok (.getfield 11, 3) := by decide +kernel
theorem d_So_becomeItsRest_16 : decode b_So_becomeItsRest 16 = .ok (.iload_n 1, 1) := by decide +kernel
theorem d_So_becomeItsRest_17 : decode b_So_becomeItsRest 17 = .ok (.laload, 1) := by decide +kernel
theorem d_So_becomeItsRest_18 : decode b_So_becomeItsRest 18 = .ok (.ldc2_w 15, 3) := by decide +kernel
theorem d_So_becomeItsRest_21 : decode b_So_becomeItsRest 21 = .ok (.lxor, 1) := by decide +kernel
theorem d_So_becomeItsRest_22 : decode b_So_becomeItsRest 22 = .ok (.lastore, 1) := by decide +kernel
theorem d_So_becomeItsRest_23 : decode b_So_becomeItsRest 23 = .ok (.iinc 1 1, 3) := by decide +kernel
theorem d_So_becomeItsRest_26 : decode b_So_becomeItsRest 26 = .ok (.goto (-24), 3) := by decide +kernel
theorem d_So_becomeItsRest_29 : decode b_So_becomeItsRest 29 = .ok (.return_, 1) := by decide +kernel
theorem d_So_joinWith_0 : decode b_So_joinWith 0 = .ok (.iconst 0, 1) := by decide +kernel
theorem d_So_joinWith_1 : decode b_So_joinWith 1 = .ok (.istore_n 3, 1) := by decide +kernel
theorem d_So_joinWith_2 : decode b_So_joinWith 2 = .ok (.iload_n 3, 1) := by decide +kernel
theorem d_So_joinWith_3 : decode b_So_joinWith 3 = .ok (.iconst 4, 1) := by decide +kernel
theorem d_So_joinWith_4 : decode b_So_joinWith 4 = .ok (.if_icmp .ge 31, 3) := by decide +kernel
theorem d_So_joinWith_7 : decode b_So_joinWith 7 = .ok (.aload_n 0, 1) := by decide +kernel
theorem d_So_joinWith_8 : decode b_So_joinWith 8 = .ok (.getfield 11, 3) := by decide +kernel
theorem d_So_joinWith_11 : decode b_So_joinWith 11 = .ok (.iload_n 3, 1) := by decide +kernel
theorem d_So_joinWith_12 : decode b_So_joinWith 12 = .ok (.aload_n 0, 1) := by decide +kernel
theorem d_So_joinWith_13 : decode b_So_joinWith 13 = .ok (.getfield 11, 3) := by decide +kernel
theorem d_So_joinWith_16 : decode b_So_joinWith 16 = .ok (.iload_n 3, 1) := by decide +kernel
theorem d_So_joinWith_17 : decode b_So_joinWith 17 = .ok (.laload, 1) := by decide +kernel
theorem d_So_joinWith_18 : decode b_So_joinWith 18 = .ok (.aload_n 1, 1) := by decide +kernel
theorem d_So_joinWith_19 : decode b_So_joinWith 19 = .ok (.getfield 11, 3) := by decide +kernel
theorem d_So_joinWith_22 : decode b_So_joinWith 22 = .ok (.iload_n 3, 1) := by decide +kernel
theorem d_So_joinWith_23 : decode b_So_joinWith 23 = .ok (.laload, 1) := by decide +kernel
theorem d_So_joinWith_24 : decode b_So_joinWith 24 = .ok (.iload_n 2, 1) := by decide +kernel
theorem d_So_joinWith_25 : decode b_So_joinWith 25 = .ok (.invokestatic 17, 3) := by decide +kernel
theorem d_So_joinWith_28 : decode b_So_joinWith 28 = .ok (.lastore, 1) := by decide +kernel
theorem d_So_joinWith_29 : decode b_So_joinWith 29 = .ok (.iinc 3 1, 3) := by decide +kernel
theorem d_So_joinWith_32 : decode b_So_joinWith 32 = .ok (.goto (-30), 3) := by decide +kernel
theorem d_So_joinWith_35 : decode b_So_joinWith 35 = .ok (.return_, 1) := by decide +kernel
theorem d_So_joined_0 : decode b_So_joined 0 = .ok (.iload 4, 2) := by decide +kernel
theorem d_So_joined_2 : decode b_So_joined 2 = .ok (.tableswitch 42 0 2 #[26, 30, 34], 26) := by decide +kernel
theorem d_So_joined_28 : decode b_So_joined 28 = .ok (.lload_n 0, 1) := by decide +kernel
theorem d_So_joined_29 : decode b_So_joined 29 = .ok (.lload_n 2, 1) := by decide +kernel
theorem d_So_joined_30 : decode b_So_joined 30 = .ok (.lor, 1) := by decide +kernel
theorem d_So_joined_31 : decode b_So_joined 31 = .ok (.lreturn, 1) := by decide +kernel
theorem d_So_joined_32 : decode b_So_joined 32 = .ok (.lload_n 0, 1) := by decide +kernel
theorem d_So_joined_33 : decode b_So_joined 33 = .ok (.lload_n 2, 1) := by decide +kernel
theorem d_So_joined_34 : decode b_So_joined 34 = .ok (.land, 1) := by decide +kernel
theorem d_So_joined_35 : decode b_So_joined 35 = .ok (.lreturn, 1) := by decide +kernel
theorem d_So_joined_36 : decode b_So_joined 36 = .ok (.lload_n 0, 1) := by decide +kernel
theorem d_So_joined_37 : decode b_So_joined 37 = .ok (.lload_n 2, 1) := by decide +kernel
theorem d_So_joined_38 : decode b_So_joined 38 = .ok (.ldc2_w 15, 3) := by decide +kernel
theorem d_So_joined_41 : decode b_So_joined 41 = .ok (.lxor, 1) := by decide +kernel
theorem d_So_joined_42 : decode b_So_joined 42 = .ok (.land, 1) := by decide +kernel
theorem d_So_joined_43 : decode b_So_joined 43 = .ok (.lreturn, 1) := by decide +kernel
theorem d_So_joined_44 : decode b_So_joined 44 = .ok (.lload_n 0, 1) := by decide +kernel
theorem d_So_joined_45 : decode b_So_joined 45 = .ok (.lload_n 2, 1) := by decide +kernel
theorem d_So_joined_46 : decode b_So_joined 46 = .ok (.lxor, 1) := by decide +kernel
theorem d_So_joined_47 : decode b_So_joined 47 = .ok (.lreturn, 1) := by decide +kernel
