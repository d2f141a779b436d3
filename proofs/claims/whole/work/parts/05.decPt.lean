/-! Decode rows of Pt. -/
theorem d_Pt_init_0 : decode b_Pt_init 0 = .ok (.aload_n 0, 1) := by decide +kernel
theorem d_Pt_init_1 : decode b_Pt_init 1 = .ok (.invokespecial 1, 3) := by decide +kernel
theorem d_Pt_init_4 : decode b_Pt_init 4 = .ok (.return_, 1) := by decide +kernel
theorem d_Pt_place_0 : decode b_Pt_place 0 = .ok (.aload_n 0, 1) := by decide +kernel
theorem d_Pt_place_1 : decode b_Pt_place 1 = .ok (.lload_n 1, 1) := by decide +kernel
theorem d_Pt_place_2 : decode b_Pt_place 2 = .ok (.putfield 7, 3) := by decide +kernel
theorem d_Pt_place_5 : decode b_Pt_place 5 = .ok (.aload_n 0, 1) := by decide +kernel
theorem d_Pt_place_6 : decode b_Pt_place 6 = .ok (.lload_n 3, 1) := by decide +kernel
theorem d_Pt_place_7 : decode b_Pt_place 7 = .ok (.putfield 13, 3) := by decide +kernel
theorem d_Pt_place_10 : decode b_Pt_place 10 = .ok (.aload_n 0, 1) := by decide +kernel
theorem d_Pt_place_11 : decode b_Pt_place 11 = .ok (.lload 5, 2) := by decide +kernel
theorem d_Pt_place_13 : decode b_Pt_place 13 = .ok (.putfield 16, 3) := by decide +kernel
theorem d_Pt_place_16 : decode b_Pt_place 16 = .ok (.aload_n 0, 1) := by decide +kernel
theorem d_Pt_place_17 : decode b_Pt_place 17 = .ok (.lload 7, 2) := by decide +kernel
theorem d_Pt_place_19 : decode b_Pt_place 19 = .ok (.putfield 19, 3) := by decide +kernel
theorem d_Pt_place_22 : decode b_Pt_place 22 = .ok (.return_, 1) := by decide +kernel
theorem d_Pt_placeOnAxis_0 : decode b_Pt_placeOnAxis 0 = .ok (.lload 4, 2) := by decide +kernel
theorem d_Pt_placeOnAxis_2 : decode b_Pt_placeOnAxis 2 = .ok (.lload 8, 2) := by decide +kernel
theorem d_Pt_placeOnAxis_4 : decode b_Pt_placeOnAxis 4 = .ok (.lmul, 1) := by decide +kernel
theorem d_Pt_placeOnAxis_5 : decode b_Pt_placeOnAxis 5 = .ok (.lstore 10, 2) := by decide +kernel
theorem d_Pt_placeOnAxis_7 : decode b_Pt_placeOnAxis 7 = .ok (.lload 6, 2) := by decide +kernel
theorem d_Pt_placeOnAxis_9 : decode b_Pt_placeOnAxis 9 = .ok (.lload 8, 2) := by decide +kernel
theorem d_Pt_placeOnAxis_11 : decode b_Pt_placeOnAxis 11 = .ok (.lmul, 1) := by decide +kernel
theorem d_Pt_placeOnAxis_12 : decode b_Pt_placeOnAxis 12 = .ok (.lstore 12, 2) := by decide +kernel
theorem d_Pt_placeOnAxis_14 : decode b_Pt_placeOnAxis 14 = .ok (.iload_n 1, 1) := by decide +kernel
theorem d_Pt_placeOnAxis_15 : decode b_Pt_placeOnAxis 15 = .ok (.ifCond .ne 17, 3) := by decide +kernel
theorem d_Pt_placeOnAxis_18 : decode b_Pt_placeOnAxis 18 = .ok (.aload_n 0, 1) := by decide +kernel
theorem d_Pt_placeOnAxis_19 : decode b_Pt_placeOnAxis 19 = .ok (.lload_n 2, 1) := by decide +kernel
theorem d_Pt_placeOnAxis_20 : decode b_Pt_placeOnAxis 20 = .ok (.lload 10, 2) := by decide +kernel
theorem d_Pt_placeOnAxis_22 : decode b_Pt_placeOnAxis 22 = .ok (.lload 12, 2) := by decide +kernel
theorem d_Pt_placeOnAxis_24 : decode b_Pt_placeOnAxis 24 = .ok (.lload 8, 2) := by decide +kernel
theorem d_Pt_placeOnAxis_26 : decode b_Pt_placeOnAxis 26 = .ok (.invokevirtual 22, 3) := by decide +kernel
theorem d_Pt_placeOnAxis_29 : decode b_Pt_placeOnAxis 29 = .ok (.goto 33, 3) := by decide +kernel
theorem d_Pt_placeOnAxis_32 : decode b_Pt_placeOnAxis 32 = .ok (.iload_n 1, 1) := by decide +kernel
theorem d_Pt_placeOnAxis_33 : decode b_Pt_placeOnAxis 33 = .ok (.iconst 1, 1) := by decide +kernel
theorem d_Pt_placeOnAxis_34 : decode b_Pt_placeOnAxis 34 = .ok (.if_icmp .ne 17, 3) := by decide +kernel
theorem d_Pt_placeOnAxis_37 : decode b_Pt_placeOnAxis 37 = .ok (.aload_n 0, 1) := by decide +kernel
theorem d_Pt_placeOnAxis_38 : decode b_Pt_placeOnAxis 38 = .ok (.lload 10, 2) := by decide +kernel
theorem d_Pt_placeOnAxis_40 : decode b_Pt_placeOnAxis 40 = .ok (.lload_n 2, 1) := by decide +kernel
theorem d_Pt_placeOnAxis_41 : decode b_Pt_placeOnAxis 41 = .ok (.lload 12, 2) := by decide +kernel
theorem d_Pt_placeOnAxis_43 : decode b_Pt_placeOnAxis 43 = .ok (.lload 8, 2) := by decide +kernel
theorem d_Pt_placeOnAxis_45 : decode b_Pt_placeOnAxis 45 = .ok (.invokevirtual 22, 3) := by decide +kernel
theorem d_Pt_placeOnAxis_48 : decode b_Pt_placeOnAxis 48 = .ok (.goto 14, 3) := by decide +kernel
theorem d_Pt_placeOnAxis_51 : decode b_Pt_placeOnAxis 51 = .ok (.aload_n 0, 1) := by decide +kernel
theorem d_Pt_placeOnAxis_52 : decode b_Pt_placeOnAxis 52 = .ok (.lload 10, 2) := by decide +kernel
theorem d_Pt_placeOnAxis_54 : decode b_Pt_placeOnAxis 54 = .ok (.lload 12, 2) := by decide +kernel
theorem d_Pt_placeOnAxis_56 : decode b_Pt_placeOnAxis 56 = .ok (.lload_n 2, 1) := by decide +kernel
theorem d_Pt_placeOnAxis_57 : decode b_Pt_placeOnAxis 57 = .ok (.lload 8, 2) := by decide +kernel
theorem d_Pt_placeOnAxis_59 : decode b_Pt_placeOnAxis 59 = .ok (.invokevirtual 22, 3) := by decide +kernel
theorem d_Pt_placeOnAxis_62 : decode b_Pt_placeOnAxis 62 = .ok (.return_, 1) := by decide +kernel
