theorem dJ6_bitCount_0f7a4_0 : decode cJ6_bitCount_0f7a4 0 = .ok (.iload_n 0, 1) := by decide +kernel
theorem dJ6_bitCount_0f7a4_1 : decode cJ6_bitCount_0f7a4 1 = .ok (.iload_n 0, 1) := by decide +kernel
theorem dJ6_bitCount_0f7a4_2 : decode cJ6_bitCount_0f7a4 2 = .ok (.iconst 1, 1) := by decide +kernel
theorem dJ6_bitCount_0f7a4_3 : decode cJ6_bitCount_0f7a4 3 = .ok (.iushr, 1) := by decide +kernel
theorem dJ6_bitCount_0f7a4_4 : decode cJ6_bitCount_0f7a4 4 = .ok (.ldc_w 265, 3) := by decide +kernel
theorem dJ6_bitCount_0f7a4_7 : decode cJ6_bitCount_0f7a4 7 = .ok (.iand, 1) := by decide +kernel
theorem dJ6_bitCount_0f7a4_8 : decode cJ6_bitCount_0f7a4 8 = .ok (.isub, 1) := by decide +kernel
theorem dJ6_bitCount_0f7a4_9 : decode cJ6_bitCount_0f7a4 9 = .ok (.istore_n 0, 1) := by decide +kernel
theorem dJ6_bitCount_0f7a4_10 : decode cJ6_bitCount_0f7a4 10 = .ok (.iload_n 0, 1) := by decide +kernel
theorem dJ6_bitCount_0f7a4_11 : decode cJ6_bitCount_0f7a4 11 = .ok (.ldc_w 266, 3) := by decide +kernel
theorem dJ6_bitCount_0f7a4_14 : decode cJ6_bitCount_0f7a4 14 = .ok (.iand, 1) := by decide +kernel
theorem dJ6_bitCount_0f7a4_15 : decode cJ6_bitCount_0f7a4 15 = .ok (.iload_n 0, 1) := by decide +kernel
theorem dJ6_bitCount_0f7a4_16 : decode cJ6_bitCount_0f7a4 16 = .ok (.iconst 2, 1) := by decide +kernel
theorem dJ6_bitCount_0f7a4_17 : decode cJ6_bitCount_0f7a4 17 = .ok (.iushr, 1) := by decide +kernel
theorem dJ6_bitCount_0f7a4_18 : decode cJ6_bitCount_0f7a4 18 = .ok (.ldc_w 266, 3) := by decide +kernel
theorem dJ6_bitCount_0f7a4_21 : decode cJ6_bitCount_0f7a4 21 = .ok (.iand, 1) := by decide +kernel
theorem dJ6_bitCount_0f7a4_22 : decode cJ6_bitCount_0f7a4 22 = .ok (.iadd, 1) := by decide +kernel
theorem dJ6_bitCount_0f7a4_23 : decode cJ6_bitCount_0f7a4 23 = .ok (.istore_n 0, 1) := by decide +kernel
theorem dJ6_bitCount_0f7a4_24 : decode cJ6_bitCount_0f7a4 24 = .ok (.iload_n 0, 1) := by decide +kernel
theorem dJ6_bitCount_0f7a4_25 : decode cJ6_bitCount_0f7a4 25 = .ok (.iload_n 0, 1) := by decide +kernel
theorem dJ6_bitCount_0f7a4_26 : decode cJ6_bitCount_0f7a4 26 = .ok (.iconst 4, 1) := by decide +kernel
theorem dJ6_bitCount_0f7a4_27 : decode cJ6_bitCount_0f7a4 27 = .ok (.iushr, 1) := by decide +kernel
theorem dJ6_bitCount_0f7a4_28 : decode cJ6_bitCount_0f7a4 28 = .ok (.iadd, 1) := by decide +kernel
theorem dJ6_bitCount_0f7a4_29 : decode cJ6_bitCount_0f7a4 29 = .ok (.ldc_w 267, 3) := by decide +kernel
theorem dJ6_bitCount_0f7a4_32 : decode cJ6_bitCount_0f7a4 32 = .ok (.iand, 1) := by decide +kernel
theorem dJ6_bitCount_0f7a4_33 : decode cJ6_bitCount_0f7a4 33 = .ok (.istore_n 0, 1) := by decide +kernel
theorem dJ6_bitCount_0f7a4_34 : decode cJ6_bitCount_0f7a4 34 = .ok (.iload_n 0, 1) := by decide +kernel
theorem dJ6_bitCount_0f7a4_35 : decode cJ6_bitCount_0f7a4 35 = .ok (.iload_n 0, 1) := by decide +kernel
theorem dJ6_bitCount_0f7a4_36 : decode cJ6_bitCount_0f7a4 36 = .ok (.bipush 8, 2) := by decide +kernel
theorem dJ6_bitCount_0f7a4_38 : decode cJ6_bitCount_0f7a4 38 = .ok (.iushr, 1) := by decide +kernel
theorem dJ6_bitCount_0f7a4_39 : decode cJ6_bitCount_0f7a4 39 = .ok (.iadd, 1) := by decide +kernel
theorem dJ6_bitCount_0f7a4_40 : decode cJ6_bitCount_0f7a4 40 = .ok (.istore_n 0, 1) := by decide +kernel
theorem dJ6_bitCount_0f7a4_41 : decode cJ6_bitCount_0f7a4 41 = .ok (.iload_n 0, 1) := by decide +kernel
theorem dJ6_bitCount_0f7a4_42 : decode cJ6_bitCount_0f7a4 42 = .ok (.iload_n 0, 1) := by decide +kernel
theorem dJ6_bitCount_0f7a4_43 : decode cJ6_bitCount_0f7a4 43 = .ok (.bipush 16, 2) := by decide +kernel
theorem dJ6_bitCount_0f7a4_45 : decode cJ6_bitCount_0f7a4 45 = .ok (.iushr, 1) := by decide +kernel
theorem dJ6_bitCount_0f7a4_46 : decode cJ6_bitCount_0f7a4 46 = .ok (.iadd, 1) := by decide +kernel
theorem dJ6_bitCount_0f7a4_47 : decode cJ6_bitCount_0f7a4 47 = .ok (.istore_n 0, 1) := by decide +kernel
theorem dJ6_bitCount_0f7a4_48 : decode cJ6_bitCount_0f7a4 48 = .ok (.iload_n 0, 1) := by decide +kernel
theorem dJ6_bitCount_0f7a4_49 : decode cJ6_bitCount_0f7a4 49 = .ok (.bipush 63, 2) := by decide +kernel
theorem dJ6_bitCount_0f7a4_51 : decode cJ6_bitCount_0f7a4 51 = .ok (.iand, 1) := by decide +kernel
theorem dJ6_bitCount_0f7a4_52 : decode cJ6_bitCount_0f7a4 52 = .ok (.ireturn, 1) := by decide +kernel
theorem dJ7_rangeCheck_23922_0 : decode cJ7_rangeCheck_23922 0 = .ok (.iload_n 1, 1) := by decide +kernel
theorem dJ7_rangeCheck_23922_1 : decode cJ7_rangeCheck_23922 1 = .ok (.iload_n 2, 1) := by decide +kernel
theorem dJ7_rangeCheck_23922_2 : decode cJ7_rangeCheck_23922 2 = .ok (.if_icmp .le 44, 3) := by decide +kernel
theorem dJ7_rangeCheck_23922_5 : decode cJ7_rangeCheck_23922 5 = .ok (.new 43, 3) := by decide +kernel
theorem dJ7_rangeCheck_23922_8 : decode cJ7_rangeCheck_23922 8 = .ok (.dup, 1) := by decide +kernel
theorem dJ7_rangeCheck_23922_9 : decode cJ7_rangeCheck_23922 9 = .ok (.new 45, 3) := by decide +kernel
theorem dJ7_rangeCheck_23922_12 : decode cJ7_rangeCheck_23922 12 = .ok (.dup, 1) := by decide +kernel
theorem dJ7_rangeCheck_23922_13 : decode cJ7_rangeCheck_23922 13 = .ok (.invokespecial 47, 3) := by decide +kernel
theorem dJ7_rangeCheck_23922_16 : decode cJ7_rangeCheck_23922 16 = .ok (.ldc 48, 2) := by decide +kernel
theorem dJ7_rangeCheck_23922_18 : decode cJ7_rangeCheck_23922 18 = .ok (.invokevirtual 50, 3) := by decide +kernel
theorem dJ7_rangeCheck_23922_21 : decode cJ7_rangeCheck_23922 21 = .ok (.iload_n 1, 1) := by decide +kernel
theorem dJ7_rangeCheck_23922_22 : decode cJ7_rangeCheck_23922 22 = .ok (.invokevirtual 54, 3) := by decide +kernel
theorem dJ7_rangeCheck_23922_25 : decode cJ7_rangeCheck_23922 25 = .ok (.ldc 57, 2) := by decide +kernel
theorem dJ7_rangeCheck_23922_27 : decode cJ7_rangeCheck_23922 27 = .ok (.invokevirtual 50, 3) := by decide +kernel
theorem dJ7_rangeCheck_23922_30 : decode cJ7_rangeCheck_23922 30 = .ok (.iload_n 2, 1) := by decide +kernel
theorem dJ7_rangeCheck_23922_31 : decode cJ7_rangeCheck_23922 31 = .ok (.invokevirtual 54, 3) := by decide +kernel
theorem dJ7_rangeCheck_23922_34 : decode cJ7_rangeCheck_23922 34 = .ok (.ldc 59, 2) := by decide +kernel
theorem dJ7_rangeCheck_23922_36 : decode cJ7_rangeCheck_23922 36 = .ok (.invokevirtual 50, 3) := by decide +kernel
theorem dJ7_rangeCheck_23922_39 : decode cJ7_rangeCheck_23922 39 = .ok (.invokevirtual 61, 3) := by decide +kernel
theorem dJ7_rangeCheck_23922_42 : decode cJ7_rangeCheck_23922 42 = .ok (.invokespecial 65, 3) := by decide +kernel
theorem dJ7_rangeCheck_23922_45 : decode cJ7_rangeCheck_23922 45 = .ok (.athrow, 1) := by decide +kernel
theorem dJ7_rangeCheck_23922_46 : decode cJ7_rangeCheck_23922 46 = .ok (.iload_n 1, 1) := by decide +kernel
theorem dJ7_rangeCheck_23922_47 : decode cJ7_rangeCheck_23922 47 = .ok (.ifCond .ge 12, 3) := by decide +kernel
theorem dJ7_rangeCheck_23922_50 : decode cJ7_rangeCheck_23922 50 = .ok (.new 68, 3) := by decide +kernel
theorem dJ7_rangeCheck_23922_53 : decode cJ7_rangeCheck_23922 53 = .ok (.dup, 1) := by decide +kernel
theorem dJ7_rangeCheck_23922_54 : decode cJ7_rangeCheck_23922 54 = .ok (.iload_n 1, 1) := by decide +kernel
theorem dJ7_rangeCheck_23922_55 : decode cJ7_rangeCheck_23922 55 = .ok (.invokespecial 70, 3) := by decide +kernel
theorem dJ7_rangeCheck_23922_58 : decode cJ7_rangeCheck_23922 58 = .ok (.athrow, 1) := by decide +kernel
theorem dJ7_rangeCheck_23922_59 : decode cJ7_rangeCheck_23922 59 = .ok (.iload_n 2, 1) := by decide +kernel
theorem dJ7_rangeCheck_23922_60 : decode cJ7_rangeCheck_23922 60 = .ok (.iload_n 0, 1) := by decide +kernel
theorem dJ7_rangeCheck_23922_61 : decode cJ7_rangeCheck_23922 61 = .ok (.if_icmp .le 12, 3) := by decide +kernel
theorem dJ7_rangeCheck_23922_64 : decode cJ7_rangeCheck_23922 64 = .ok (.new 68, 3) := by decide +kernel
theorem dJ7_rangeCheck_23922_67 : decode cJ7_rangeCheck_23922 67 = .ok (.dup, 1) := by decide +kernel
theorem dJ7_rangeCheck_23922_68 : decode cJ7_rangeCheck_23922 68 = .ok (.iload_n 2, 1) := by decide +kernel
theorem dJ7_rangeCheck_23922_69 : decode cJ7_rangeCheck_23922 69 = .ok (.invokespecial 70, 3) := by decide +kernel
theorem dJ7_rangeCheck_23922_72 : decode cJ7_rangeCheck_23922 72 = .ok (.athrow, 1) := by decide +kernel
theorem dJ7_rangeCheck_23922_73 : decode cJ7_rangeCheck_23922 73 = .ok (.return_, 1) := by decide +kernel
theorem dJ7_fill_d0a16_0 : decode cJ7_fill_d0a16 0 = .ok (.iconst 0, 1) := by decide +kernel
theorem dJ7_fill_d0a16_1 : decode cJ7_fill_d0a16 1 = .ok (.istore_n 3, 1) := by decide +kernel
theorem dJ7_fill_d0a16_2 : decode cJ7_fill_d0a16 2 = .ok (.aload_n 0, 1) := by decide +kernel
theorem dJ7_fill_d0a16_3 : decode cJ7_fill_d0a16 3 = .ok (.arraylength, 1) := by decide +kernel
theorem dJ7_fill_d0a16_4 : decode cJ7_fill_d0a16 4 = .ok (.istore 4, 2) := by decide +kernel
theorem dJ7_fill_d0a16_6 : decode cJ7_fill_d0a16 6 = .ok (.iload_n 3, 1) := by decide +kernel
theorem dJ7_fill_d0a16_7 : decode cJ7_fill_d0a16 7 = .ok (.iload 4, 2) := by decide +kernel
theorem dJ7_fill_d0a16_9 : decode cJ7_fill_d0a16 9 = .ok (.if_icmp .ge 13, 3) := by decide +kernel
theorem dJ7_fill_d0a16_12 : decode cJ7_fill_d0a16 12 = .ok (.aload_n 0, 1) := by decide +kernel
theorem dJ7_fill_d0a16_13 : decode cJ7_fill_d0a16 13 = .ok (.iload_n 3, 1) := by decide +kernel
theorem dJ7_fill_d0a16_14 : decode cJ7_fill_d0a16 14 = .ok (.lload_n 1, 1) := by decide +kernel
theorem dJ7_fill_d0a16_15 : decode cJ7_fill_d0a16 15 = .ok (.lastore, 1) := by decide +kernel
theorem dJ7_fill_d0a16_16 : decode cJ7_fill_d0a16 16 = .ok (.iinc 3 1, 3) := by decide +kernel
theorem dJ7_fill_d0a16_19 : decode cJ7_fill_d0a16 19 = .ok (.goto (-13), 3) := by decide +kernel
theorem dJ7_fill_d0a16_22 : decode cJ7_fill_d0a16 22 = .ok (.return_, 1) := by decide +kernel
theorem dJ7_fill_53178_0 : decode cJ7_fill_53178 0 = .ok (.iconst 0, 1) := by decide +kernel
theorem dJ7_fill_53178_1 : decode cJ7_fill_53178 1 = .ok (.istore_n 2, 1) := by decide +kernel
theorem dJ7_fill_53178_2 : decode cJ7_fill_53178 2 = .ok (.aload_n 0, 1) := by decide +kernel
theorem dJ7_fill_53178_3 : decode cJ7_fill_53178 3 = .ok (.arraylength, 1) := by decide +kernel
theorem dJ7_fill_53178_4 : decode cJ7_fill_53178 4 = .ok (.istore_n 3, 1) := by decide +kernel
theorem dJ7_fill_53178_5 : decode cJ7_fill_53178 5 = .ok (.iload_n 2, 1) := by decide +kernel
theorem dJ7_fill_53178_6 : decode cJ7_fill_53178 6 = .ok (.iload_n 3, 1) := by decide +kernel
theorem dJ7_fill_53178_7 : decode cJ7_fill_53178 7 = .ok (.if_icmp .ge 13, 3) := by decide +kernel
theorem dJ7_fill_53178_10 : decode cJ7_fill_53178 10 = .ok (.aload_n 0, 1) := by decide +kernel
theorem dJ7_fill_53178_11 : decode cJ7_fill_53178 11 = .ok (.iload_n 2, 1) := by decide +kernel
theorem dJ7_fill_53178_12 : decode cJ7_fill_53178 12 = .ok (.iload_n 1, 1) := by decide +kernel
theorem dJ7_fill_53178_13 : decode cJ7_fill_53178 13 = .ok (.iastore, 1) := by decide +kernel
theorem dJ7_fill_53178_14 : decode cJ7_fill_53178 14 = .ok (.iinc 2 1, 3) := by decide +kernel
theorem dJ7_fill_53178_17 : decode cJ7_fill_53178 17 = .ok (.goto (-12), 3) := by decide +kernel
theorem dJ7_fill_53178_20 : decode cJ7_fill_53178 20 = .ok (.return_, 1) := by decide +kernel
theorem dJ7_fill_fda19_0 : decode cJ7_fill_fda19 0 = .ok (.aload_n 0, 1) := by decide +kernel
theorem dJ7_fill_fda19_1 : decode cJ7_fill_fda19 1 = .ok (.arraylength, 1) := by decide +kernel
theorem dJ7_fill_fda19_2 : decode cJ7_fill_fda19 2 = .ok (.iload_n 1, 1) := by decide +kernel
theorem dJ7_fill_fda19_3 : decode cJ7_fill_fda19 3 = .ok (.iload_n 2, 1) := by decide +kernel
theorem dJ7_fill_fda19_4 : decode cJ7_fill_fda19 4 = .ok (.invokestatic 13, 3) := by decide +kernel
theorem dJ7_fill_fda19_7 : decode cJ7_fill_fda19 7 = .ok (.iload_n 1, 1) := by decide +kernel
theorem dJ7_fill_fda19_8 : decode cJ7_fill_fda19 8 = .ok (.istore 4, 2) := by decide +kernel
theorem dJ7_fill_fda19_10 : decode cJ7_fill_fda19 10 = .ok (.iload 4, 2) := by decide +kernel
theorem dJ7_fill_fda19_12 : decode cJ7_fill_fda19 12 = .ok (.iload_n 2, 1) := by decide +kernel
theorem dJ7_fill_fda19_13 : decode cJ7_fill_fda19 13 = .ok (.if_icmp .ge 14, 3) := by decide +kernel
theorem dJ7_fill_fda19_16 : decode cJ7_fill_fda19 16 = .ok (.aload_n 0, 1) := by decide +kernel
theorem dJ7_fill_fda19_17 : decode cJ7_fill_fda19 17 = .ok (.iload 4, 2) := by decide +kernel
theorem dJ7_fill_fda19_19 : decode cJ7_fill_fda19 19 = .ok (.iload_n 3, 1) := by decide +kernel
theorem dJ7_fill_fda19_20 : decode cJ7_fill_fda19 20 = .ok (.iastore, 1) := by decide +kernel
theorem dJ7_fill_fda19_21 : decode cJ7_fill_fda19 21 = .ok (.iinc 4 1, 3) := by decide +kernel
theorem dJ7_fill_fda19_24 : decode cJ7_fill_fda19 24 = .ok (.goto (-14), 3) := by decide +kernel
theorem dJ7_fill_fda19_27 : decode cJ7_fill_fda19 27 = .ok (.return_, 1) := by decide +kernel
theorem dX0_init_0 : decode cX0_init 0 = .ok (.aload_n 0, 1) := by decide +kernel
theorem dX0_init_1 : decode cX0_init 1 = .ok (.invokespecial 3, 3) := by decide +kernel
theorem dX0_init_4 : decode cX0_init 4 = .ok (.aload_n 0, 1) := by decide +kernel
theorem dX0_init_5 : decode cX0_init 5 = .ok (.new 9, 3) := by decide +kernel
theorem dX0_init_8 : decode cX0_init 8 = .ok (.dup, 1) := by decide +kernel
theorem dX0_init_9 : decode cX0_init 9 = .ok (.invokespecial 11, 3) := by decide +kernel
theorem dX0_init_12 : decode cX0_init 12 = .ok (.putfield 12, 3) := by decide +kernel
theorem dX0_init_15 : decode cX0_init 15 = .ok (.aload_n 0, 1) := by decide +kernel
theorem dX0_init_16 : decode cX0_init 16 = .ok (.new 18, 3) := by decide +kernel
theorem dX0_init_19 : decode cX0_init 19 = .ok (.dup, 1) := by decide +kernel
theorem dX0_init_20 : decode cX0_init 20 = .ok (.invokespecial 20, 3) := by decide +kernel
theorem dX0_init_23 : decode cX0_init 23 = .ok (.putfield 21, 3) := by decide +kernel
theorem dX0_init_26 : decode cX0_init 26 = .ok (.aload_n 0, 1) := by decide +kernel
theorem dX0_init_27 : decode cX0_init 27 = .ok (.bipush 24, 2) := by decide +kernel
theorem dX0_init_29 : decode cX0_init 29 = .ok (.newarray .int, 2) := by decide +kernel
theorem dX0_init_31 : decode cX0_init 31 = .ok (.putfield 25, 3) := by decide +kernel
theorem dX0_init_34 : decode cX0_init 34 = .ok (.aload_n 0, 1) := by decide +kernel
theorem dX0_init_35 : decode cX0_init 35 = .ok (.bipush 7, 2) := by decide +kernel
theorem dX0_init_37 : decode cX0_init 37 = .ok (.newarray .int, 2) := by decide +kernel
theorem dX0_init_39 : decode cX0_init 39 = .ok (.putfield 29, 3) := by decide +kernel
theorem dX0_init_42 : decode cX0_init 42 = .ok (.aload_n 0, 1) := by decide +kernel
theorem dX0_init_43 : decode cX0_init 43 = .ok (.iconst 4, 1) := by decide +kernel
theorem dX0_init_44 : decode cX0_init 44 = .ok (.newarray .int, 2) := by decide +kernel
theorem dX0_init_46 : decode cX0_init 46 = .ok (.putfield 32, 3) := by decide +kernel
theorem dX0_init_49 : decode cX0_init 49 = .ok (.aload_n 0, 1) := by decide +kernel
theorem dX0_init_50 : decode cX0_init 50 = .ok (.iconst 4, 1) := by decide +kernel
theorem dX0_init_51 : decode cX0_init 51 = .ok (.newarray .boolean, 2) := by decide +kernel
theorem dX0_init_53 : decode cX0_init 53 = .ok (.putfield 35, 3) := by decide +kernel
theorem dX0_init_56 : decode cX0_init 56 = .ok (.aload_n 0, 1) := by decide +kernel
theorem dX0_init_57 : decode cX0_init 57 = .ok (.bipush 38, 2) := by decide +kernel
theorem dX0_init_59 : decode cX0_init 59 = .ok (.newarray .long, 2) := by decide +kernel
theorem dX0_init_61 : decode cX0_init 61 = .ok (.putfield 39, 3) := by decide +kernel
theorem dX0_init_64 : decode cX0_init 64 = .ok (.return_, 1) := by decide +kernel
theorem dX0_callUp_0 : decode cX0_callUp 0 = .ok (.aload_n 0, 1) := by decide +kernel
theorem dX0_callUp_1 : decode cX0_callUp 1 = .ok (.aload_n 0, 1) := by decide +kernel
theorem dX0_callUp_2 : decode cX0_callUp 2 = .ok (.getfield 21, 3) := by decide +kernel
theorem dX0_callUp_5 : decode cX0_callUp 5 = .ok (.getfield 43, 3) := by decide +kernel
theorem dX0_callUp_8 : decode cX0_callUp 8 = .ok (.iconst 4, 1) := by decide +kernel
theorem dX0_callUp_9 : decode cX0_callUp 9 = .ok (.invokestatic 47, 3) := by decide +kernel
theorem dX0_callUp_12 : decode cX0_callUp 12 = .ok (.putfield 53, 3) := by decide +kernel
theorem dX0_callUp_15 : decode cX0_callUp 15 = .ok (.iconst 0, 1) := by decide +kernel
theorem dX0_callUp_16 : decode cX0_callUp 16 = .ok (.istore_n 2, 1) := by decide +kernel
theorem dX0_callUp_17 : decode cX0_callUp 17 = .ok (.iload_n 2, 1) := by decide +kernel
theorem dX0_callUp_18 : decode cX0_callUp 18 = .ok (.aload_n 0, 1) := by decide +kernel
theorem dX0_callUp_19 : decode cX0_callUp 19 = .ok (.getfield 53, 3) := by decide +kernel
theorem dX0_callUp_22 : decode cX0_callUp 22 = .ok (.if_icmp .ge 60, 3) := by decide +kernel
theorem dX0_callUp_25 : decode cX0_callUp 25 = .ok (.iload_n 1, 1) := by decide +kernel
theorem dX0_callUp_26 : decode cX0_callUp 26 = .ok (.ifCond .eq 7, 3) := by decide +kernel
theorem dX0_callUp_29 : decode cX0_callUp 29 = .ok (.iconst 0, 1) := by decide +kernel
theorem dX0_callUp_30 : decode cX0_callUp 30 = .ok (.goto 11, 3) := by decide +kernel
theorem dX0_callUp_33 : decode cX0_callUp 33 = .ok (.aload_n 0, 1) := by decide +kernel
theorem dX0_callUp_34 : decode cX0_callUp 34 = .ok (.getfield 21, 3) := by decide +kernel
theorem dX0_callUp_37 : decode cX0_callUp 37 = .ok (.iload_n 2, 1) := by decide +kernel
theorem dX0_callUp_38 : decode cX0_callUp 38 = .ok (.invokevirtual 56, 3) := by decide +kernel
theorem dX0_callUp_41 : decode cX0_callUp 41 = .ok (.istore_n 3, 1) := by decide +kernel
theorem dX0_callUp_42 : decode cX0_callUp 42 = .ok (.aload_n 0, 1) := by decide +kernel
theorem dX0_callUp_43 : decode cX0_callUp 43 = .ok (.getfield 32, 3) := by decide +kernel
theorem dX0_callUp_46 : decode cX0_callUp 46 = .ok (.iload_n 2, 1) := by decide +kernel
theorem dX0_callUp_47 : decode cX0_callUp 47 = .ok (.iload_n 3, 1) := by decide +kernel
theorem dX0_callUp_48 : decode cX0_callUp 48 = .ok (.aload_n 0, 1) := by decide +kernel
theorem dX0_callUp_49 : decode cX0_callUp 49 = .ok (.getfield 21, 3) := by decide +kernel
theorem dX0_callUp_52 : decode cX0_callUp 52 = .ok (.iload_n 2, 1) := by decide +kernel
theorem dX0_callUp_53 : decode cX0_callUp 53 = .ok (.invokevirtual 60, 3) := by decide +kernel
theorem dX0_callUp_56 : decode cX0_callUp 56 = .ok (.invokestatic 63, 3) := by decide +kernel
theorem dX0_callUp_59 : decode cX0_callUp 59 = .ok (.iastore, 1) := by decide +kernel
theorem dX0_callUp_60 : decode cX0_callUp 60 = .ok (.aload_n 0, 1) := by decide +kernel
theorem dX0_callUp_61 : decode cX0_callUp 61 = .ok (.getfield 35, 3) := by decide +kernel
theorem dX0_callUp_64 : decode cX0_callUp 64 = .ok (.iload_n 2, 1) := by decide +kernel
theorem dX0_callUp_65 : decode cX0_callUp 65 = .ok (.iload_n 3, 1) := by decide +kernel
theorem dX0_callUp_66 : decode cX0_callUp 66 = .ok (.iconst 1, 1) := by decide +kernel
theorem dX0_callUp_67 : decode cX0_callUp 67 = .ok (.if_icmp .lt 7, 3) := by decide +kernel
theorem dX0_callUp_70 : decode cX0_callUp 70 = .ok (.iconst 1, 1) := by decide +kernel
theorem dX0_callUp_71 : decode cX0_callUp 71 = .ok (.goto 4, 3) := by decide +kernel
theorem dX0_callUp_74 : decode cX0_callUp 74 = .ok (.iconst 0, 1) := by decide +kernel
theorem dX0_callUp_75 : decode cX0_callUp 75 = .ok (.bastore, 1) := by decide +kernel
theorem dX0_callUp_76 : decode cX0_callUp 76 = .ok (.iinc 2 1, 3) := by decide +kernel
theorem dX0_callUp_79 : decode cX0_callUp 79 = .ok (.goto (-62), 3) := by decide +kernel
theorem dX0_callUp_82 : decode cX0_callUp 82 = .ok (.return_, 1) := by decide +kernel
theorem dX0_stepOf_0 : decode cX0_stepOf 0 = .ok (.iload_n 1, 1) := by decide +kernel
theorem dX0_stepOf_1 : decode cX0_stepOf 1 = .ok (.iconst 4, 1) := by decide +kernel
theorem dX0_stepOf_2 : decode cX0_stepOf 2 = .ok (.imul, 1) := by decide +kernel
theorem dX0_stepOf_3 : decode cX0_stepOf 3 = .ok (.iload_n 2, 1) := by decide +kernel
theorem dX0_stepOf_4 : decode cX0_stepOf 4 = .ok (.iadd, 1) := by decide +kernel
theorem dX0_stepOf_5 : decode cX0_stepOf 5 = .ok (.istore_n 3, 1) := by decide +kernel
theorem dX0_stepOf_6 : decode cX0_stepOf 6 = .ok (.iload_n 3, 1) := by decide +kernel
theorem dX0_stepOf_7 : decode cX0_stepOf 7 = .ok (.ifCond .lt 21, 3) := by decide +kernel
theorem dX0_stepOf_10 : decode cX0_stepOf 10 = .ok (.iload_n 3, 1) := by decide +kernel
theorem dX0_stepOf_11 : decode cX0_stepOf 11 = .ok (.aload_n 0, 1) := by decide +kernel
theorem dX0_stepOf_12 : decode cX0_stepOf 12 = .ok (.getfield 25, 3) := by decide +kernel
theorem dX0_stepOf_15 : decode cX0_stepOf 15 = .ok (.arraylength, 1) := by decide +kernel
theorem dX0_stepOf_16 : decode cX0_stepOf 16 = .ok (.if_icmp .ge 12, 3) := by decide +kernel
theorem dX0_stepOf_19 : decode cX0_stepOf 19 = .ok (.aload_n 0, 1) := by decide +kernel
theorem dX0_stepOf_20 : decode cX0_stepOf 20 = .ok (.getfield 25, 3) := by decide +kernel
theorem dX0_stepOf_23 : decode cX0_stepOf 23 = .ok (.iload_n 3, 1) := by decide +kernel
theorem dX0_stepOf_24 : decode cX0_stepOf 24 = .ok (.iaload, 1) := by decide +kernel
theorem dX0_stepOf_25 : decode cX0_stepOf 25 = .ok (.goto 4, 3) := by decide +kernel
theorem dX0_stepOf_28 : decode cX0_stepOf 28 = .ok (.iconst 0, 1) := by decide +kernel
theorem dX0_stepOf_29 : decode cX0_stepOf 29 = .ok (.ireturn, 1) := by decide +kernel
theorem dX0_step_0 : decode cX0_step 0 = .ok (.iload_n 1, 1) := by decide +kernel
theorem dX0_step_1 : decode cX0_step 1 = .ok (.iconst 4, 1) := by decide +kernel
theorem dX0_step_2 : decode cX0_step 2 = .ok (.imul, 1) := by decide +kernel
theorem dX0_step_3 : decode cX0_step 3 = .ok (.iload_n 2, 1) := by decide +kernel
theorem dX0_step_4 : decode cX0_step 4 = .ok (.iadd, 1) := by decide +kernel
theorem dX0_step_5 : decode cX0_step 5 = .ok (.istore 4, 2) := by decide +kernel
theorem dX0_step_7 : decode cX0_step 7 = .ok (.iload 4, 2) := by decide +kernel
theorem dX0_step_9 : decode cX0_step 9 = .ok (.ifCond .lt 21, 3) := by decide +kernel
theorem dX0_step_12 : decode cX0_step 12 = .ok (.iload 4, 2) := by decide +kernel
theorem dX0_step_14 : decode cX0_step 14 = .ok (.aload_n 0, 1) := by decide +kernel
theorem dX0_step_15 : decode cX0_step 15 = .ok (.getfield 25, 3) := by decide +kernel
theorem dX0_step_18 : decode cX0_step 18 = .ok (.arraylength, 1) := by decide +kernel
theorem dX0_step_19 : decode cX0_step 19 = .ok (.if_icmp .ge 11, 3) := by decide +kernel
theorem dX0_step_22 : decode cX0_step 22 = .ok (.aload_n 0, 1) := by decide +kernel
theorem dX0_step_23 : decode cX0_step 23 = .ok (.getfield 25, 3) := by decide +kernel
theorem dX0_step_26 : decode cX0_step 26 = .ok (.iload 4, 2) := by decide +kernel
theorem dX0_step_28 : decode cX0_step 28 = .ok (.iload_n 3, 1) := by decide +kernel
theorem dX0_step_29 : decode cX0_step 29 = .ok (.iastore, 1) := by decide +kernel
theorem dX0_step_30 : decode cX0_step 30 = .ok (.return_, 1) := by decide +kernel
theorem dX0_learn_0 : decode cX0_learn 0 = .ok (.iconst 0, 1) := by decide +kernel
theorem dX0_learn_1 : decode cX0_learn 1 = .ok (.istore_n 3, 1) := by decide +kernel
theorem dX0_learn_2 : decode cX0_learn 2 = .ok (.iconst 0, 1) := by decide +kernel
theorem dX0_learn_3 : decode cX0_learn 3 = .ok (.istore 4, 2) := by decide +kernel
theorem dX0_learn_5 : decode cX0_learn 5 = .ok (.iload 4, 2) := by decide +kernel
theorem dX0_learn_7 : decode cX0_learn 7 = .ok (.iload_n 2, 1) := by decide +kernel
theorem dX0_learn_8 : decode cX0_learn 8 = .ok (.if_icmp .ge 65, 3) := by decide +kernel
theorem dX0_learn_11 : decode cX0_learn 11 = .ok (.iconst 0, 1) := by decide +kernel
theorem dX0_learn_12 : decode cX0_learn 12 = .ok (.istore 5, 2) := by decide +kernel
theorem dX0_learn_14 : decode cX0_learn 14 = .ok (.iload 5, 2) := by decide +kernel
theorem dX0_learn_16 : decode cX0_learn 16 = .ok (.aload_n 0, 1) := by decide +kernel
theorem dX0_learn_17 : decode cX0_learn 17 = .ok (.getfield 21, 3) := by decide +kernel
theorem dX0_learn_20 : decode cX0_learn 20 = .ok (.getfield 43, 3) := by decide +kernel
theorem dX0_learn_23 : decode cX0_learn 23 = .ok (.if_icmp .ge 44, 3) := by decide +kernel
theorem dX0_learn_26 : decode cX0_learn 26 = .ok (.iload_n 3, 1) := by decide +kernel
theorem dX0_learn_27 : decode cX0_learn 27 = .ok (.aload_n 1, 1) := by decide +kernel
theorem dX0_learn_28 : decode cX0_learn 28 = .ok (.arraylength, 1) := by decide +kernel
theorem dX0_learn_29 : decode cX0_learn 29 = .ok (.if_icmp .ge 16, 3) := by decide +kernel
theorem dX0_learn_32 : decode cX0_learn 32 = .ok (.aload_n 0, 1) := by decide +kernel
theorem dX0_learn_33 : decode cX0_learn 33 = .ok (.getfield 12, 3) := by decide +kernel
theorem dX0_learn_36 : decode cX0_learn 36 = .ok (.aload_n 1, 1) := by decide +kernel
theorem dX0_learn_37 : decode cX0_learn 37 = .ok (.iload_n 3, 1) := by decide +kernel
theorem dX0_learn_38 : decode cX0_learn 38 = .ok (.iaload, 1) := by decide +kernel
theorem dX0_learn_39 : decode cX0_learn 39 = .ok (.invokevirtual 66, 3) := by decide +kernel
theorem dX0_learn_42 : decode cX0_learn 42 = .ok (.ifCond .ne 5, 3) := by decide +kernel
theorem dX0_learn_45 : decode cX0_learn 45 = .ok (.iconst 0, 1) := by decide +kernel
theorem dX0_learn_46 : decode cX0_learn 46 = .ok (.ireturn, 1) := by decide +kernel
theorem dX0_learn_47 : decode cX0_learn 47 = .ok (.aload_n 0, 1) := by decide +kernel
theorem dX0_learn_48 : decode cX0_learn 48 = .ok (.iload 4, 2) := by decide +kernel
theorem dX0_learn_50 : decode cX0_learn 50 = .ok (.iload 5, 2) := by decide +kernel
theorem dX0_learn_52 : decode cX0_learn 52 = .ok (.aload_n 1, 1) := by decide +kernel
theorem dX0_learn_53 : decode cX0_learn 53 = .ok (.iload_n 3, 1) := by decide +kernel
theorem dX0_learn_54 : decode cX0_learn 54 = .ok (.iaload, 1) := by decide +kernel
theorem dX0_learn_55 : decode cX0_learn 55 = .ok (.invokevirtual 70, 3) := by decide +kernel
theorem dX0_learn_58 : decode cX0_learn 58 = .ok (.iinc 3 1, 3) := by decide +kernel
theorem dX0_learn_61 : decode cX0_learn 61 = .ok (.iinc 5 1, 3) := by decide +kernel
theorem dX0_learn_64 : decode cX0_learn 64 = .ok (.goto (-50), 3) := by decide +kernel
theorem dX0_learn_67 : decode cX0_learn 67 = .ok (.iinc 4 1, 3) := by decide +kernel
theorem dX0_learn_70 : decode cX0_learn 70 = .ok (.goto (-65), 3) := by decide +kernel
theorem dX0_learn_73 : decode cX0_learn 73 = .ok (.iconst 1, 1) := by decide +kernel
theorem dX0_learn_74 : decode cX0_learn 74 = .ok (.ireturn, 1) := by decide +kernel
theorem dX0_doorOpened_0 : decode cX0_doorOpened 0 = .ok (.iconst 0, 1) := by decide +kernel
theorem dX0_doorOpened_1 : decode cX0_doorOpened 1 = .ok (.istore_n 2, 1) := by decide +kernel
theorem dX0_doorOpened_2 : decode cX0_doorOpened 2 = .ok (.iload_n 2, 1) := by decide +kernel
theorem dX0_doorOpened_3 : decode cX0_doorOpened 3 = .ok (.aload_n 0, 1) := by decide +kernel
theorem dX0_doorOpened_4 : decode cX0_doorOpened 4 = .ok (.getfield 12, 3) := by decide +kernel
theorem dX0_doorOpened_7 : decode cX0_doorOpened 7 = .ok (.getfield 74, 3) := by decide +kernel
theorem dX0_doorOpened_10 : decode cX0_doorOpened 10 = .ok (.if_icmp .ge 33, 3) := by decide +kernel
theorem dX0_doorOpened_13 : decode cX0_doorOpened 13 = .ok (.aload_n 0, 1) := by decide +kernel
theorem dX0_doorOpened_14 : decode cX0_doorOpened 14 = .ok (.getfield 12, 3) := by decide +kernel
theorem dX0_doorOpened_17 : decode cX0_doorOpened 17 = .ok (.iload_n 2, 1) := by decide +kernel
theorem dX0_doorOpened_18 : decode cX0_doorOpened 18 = .ok (.invokevirtual 77, 3) := by decide +kernel
theorem dX0_doorOpened_21 : decode cX0_doorOpened 21 = .ok (.iload_n 1, 1) := by decide +kernel
theorem dX0_doorOpened_22 : decode cX0_doorOpened 22 = .ok (.if_icmp .ne 15, 3) := by decide +kernel
theorem dX0_doorOpened_25 : decode cX0_doorOpened 25 = .ok (.aload_n 0, 1) := by decide +kernel
theorem dX0_doorOpened_26 : decode cX0_doorOpened 26 = .ok (.iload_n 2, 1) := by decide +kernel
theorem dX0_doorOpened_27 : decode cX0_doorOpened 27 = .ok (.invokevirtual 80, 3) := by decide +kernel
theorem dX0_doorOpened_30 : decode cX0_doorOpened 30 = .ok (.bipush (-9), 2) := by decide +kernel
theorem dX0_doorOpened_32 : decode cX0_doorOpened 32 = .ok (.if_icmp .ne 5, 3) := by decide +kernel
theorem dX0_doorOpened_35 : decode cX0_doorOpened 35 = .ok (.iload_n 2, 1) := by decide +kernel
theorem dX0_doorOpened_36 : decode cX0_doorOpened 36 = .ok (.ireturn, 1) := by decide +kernel
theorem dX0_doorOpened_37 : decode cX0_doorOpened 37 = .ok (.iinc 2 1, 3) := by decide +kernel
theorem dX0_doorOpened_40 : decode cX0_doorOpened 40 = .ok (.goto (-38), 3) := by decide +kernel
theorem dX0_doorOpened_43 : decode cX0_doorOpened 43 = .ok (.bipush (-9), 2) := by decide +kernel
theorem dX0_doorOpened_45 : decode cX0_doorOpened 45 = .ok (.ireturn, 1) := by decide +kernel
theorem dX0_firstWrong_0 : decode cX0_firstWrong 0 = .ok (.iconst 0, 1) := by decide +kernel
theorem dX0_firstWrong_1 : decode cX0_firstWrong 1 = .ok (.istore_n 2, 1) := by decide +kernel
theorem dX0_firstWrong_2 : decode cX0_firstWrong 2 = .ok (.iload_n 2, 1) := by decide +kernel
theorem dX0_firstWrong_3 : decode cX0_firstWrong 3 = .ok (.aload_n 0, 1) := by decide +kernel
theorem dX0_firstWrong_4 : decode cX0_firstWrong 4 = .ok (.getfield 12, 3) := by decide +kernel
theorem dX0_firstWrong_7 : decode cX0_firstWrong 7 = .ok (.iload_n 1, 1) := by decide +kernel
theorem dX0_firstWrong_8 : decode cX0_firstWrong 8 = .ok (.invokevirtual 77, 3) := by decide +kernel
theorem dX0_firstWrong_11 : decode cX0_firstWrong 11 = .ok (.if_icmp .ge 28, 3) := by decide +kernel
theorem dX0_firstWrong_14 : decode cX0_firstWrong 14 = .ok (.aload_n 0, 1) := by decide +kernel
theorem dX0_firstWrong_15 : decode cX0_firstWrong 15 = .ok (.iload_n 2, 1) := by decide +kernel
theorem dX0_firstWrong_16 : decode cX0_firstWrong 16 = .ok (.invokevirtual 83, 3) := by decide +kernel
theorem dX0_firstWrong_19 : decode cX0_firstWrong 19 = .ok (.aload_n 0, 1) := by decide +kernel
theorem dX0_firstWrong_20 : decode cX0_firstWrong 20 = .ok (.getfield 12, 3) := by decide +kernel
theorem dX0_firstWrong_23 : decode cX0_firstWrong 23 = .ok (.iload_n 1, 1) := by decide +kernel
theorem dX0_firstWrong_24 : decode cX0_firstWrong 24 = .ok (.iload_n 2, 1) := by decide +kernel
theorem dX0_firstWrong_25 : decode cX0_firstWrong 25 = .ok (.invokevirtual 86, 3) := by decide +kernel
theorem dX0_firstWrong_28 : decode cX0_firstWrong 28 = .ok (.if_icmp .eq 5, 3) := by decide +kernel
theorem dX0_firstWrong_31 : decode cX0_firstWrong 31 = .ok (.iload_n 2, 1) := by decide +kernel
theorem dX0_firstWrong_32 : decode cX0_firstWrong 32 = .ok (.ireturn, 1) := by decide +kernel
theorem dX0_firstWrong_33 : decode cX0_firstWrong 33 = .ok (.iinc 2 1, 3) := by decide +kernel
theorem dX0_firstWrong_36 : decode cX0_firstWrong 36 = .ok (.goto (-34), 3) := by decide +kernel
theorem dX0_firstWrong_39 : decode cX0_firstWrong 39 = .ok (.bipush (-9), 2) := by decide +kernel
theorem dX0_firstWrong_41 : decode cX0_firstWrong 41 = .ok (.ireturn, 1) := by decide +kernel
theorem dX0_feltIn_0 : decode cX0_feltIn 0 = .ok (.aload_n 0, 1) := by decide +kernel
theorem dX0_feltIn_1 : decode cX0_feltIn 1 = .ok (.iconst 0, 1) := by decide +kernel
theorem dX0_feltIn_2 : decode cX0_feltIn 2 = .ok (.invokevirtual 89, 3) := by decide +kernel
theorem dX0_feltIn_5 : decode cX0_feltIn 5 = .ok (.aload_n 0, 1) := by decide +kernel
theorem dX0_feltIn_6 : decode cX0_feltIn 6 = .ok (.iload_n 1, 1) := by decide +kernel
theorem dX0_feltIn_7 : decode cX0_feltIn 7 = .ok (.aload_n 0, 1) := by decide +kernel
theorem dX0_feltIn_8 : decode cX0_feltIn 8 = .ok (.getfield 53, 3) := by decide +kernel
theorem dX0_feltIn_11 : decode cX0_feltIn 11 = .ok (.invokevirtual 93, 3) := by decide +kernel
theorem dX0_feltIn_14 : decode cX0_feltIn 14 = .ok (.iconst 0, 1) := by decide +kernel
theorem dX0_feltIn_15 : decode cX0_feltIn 15 = .ok (.istore_n 2, 1) := by decide +kernel
theorem dX0_feltIn_16 : decode cX0_feltIn 16 = .ok (.iconst 0, 1) := by decide +kernel
theorem dX0_feltIn_17 : decode cX0_feltIn 17 = .ok (.istore_n 3, 1) := by decide +kernel
theorem dX0_feltIn_18 : decode cX0_feltIn 18 = .ok (.iload_n 3, 1) := by decide +kernel
theorem dX0_feltIn_19 : decode cX0_feltIn 19 = .ok (.aload_n 0, 1) := by decide +kernel
theorem dX0_feltIn_20 : decode cX0_feltIn 20 = .ok (.getfield 12, 3) := by decide +kernel
theorem dX0_feltIn_23 : decode cX0_feltIn 23 = .ok (.getfield 97, 3) := by decide +kernel
theorem dX0_feltIn_26 : decode cX0_feltIn 26 = .ok (.if_icmp .ge 23, 3) := by decide +kernel
theorem dX0_feltIn_29 : decode cX0_feltIn 29 = .ok (.aload_n 0, 1) := by decide +kernel
theorem dX0_feltIn_30 : decode cX0_feltIn 30 = .ok (.iload_n 3, 1) := by decide +kernel
theorem dX0_feltIn_31 : decode cX0_feltIn 31 = .ok (.invokevirtual 100, 3) := by decide +kernel
theorem dX0_feltIn_34 : decode cX0_feltIn 34 = .ok (.ifCond .gt 9, 3) := by decide +kernel
theorem dX0_feltIn_37 : decode cX0_feltIn 37 = .ok (.iload_n 2, 1) := by decide +kernel
theorem dX0_feltIn_38 : decode cX0_feltIn 38 = .ok (.iconst 1, 1) := by decide +kernel
theorem dX0_feltIn_39 : decode cX0_feltIn 39 = .ok (.iload_n 3, 1) := by decide +kernel
theorem dX0_feltIn_40 : decode cX0_feltIn 40 = .ok (.ishl, 1) := by decide +kernel
theorem dX0_feltIn_41 : decode cX0_feltIn 41 = .ok (.ior, 1) := by decide +kernel
theorem dX0_feltIn_42 : decode cX0_feltIn 42 = .ok (.istore_n 2, 1) := by decide +kernel
theorem dX0_feltIn_43 : decode cX0_feltIn 43 = .ok (.iinc 3 1, 3) := by decide +kernel
theorem dX0_feltIn_46 : decode cX0_feltIn 46 = .ok (.goto (-28), 3) := by decide +kernel
theorem dX0_feltIn_49 : decode cX0_feltIn 49 = .ok (.iload_n 2, 1) := by decide +kernel
theorem dX0_feltIn_50 : decode cX0_feltIn 50 = .ok (.ireturn, 1) := by decide +kernel
theorem dX0_missingOn_0 : decode cX0_missingOn 0 = .ok (.aload_n 0, 1) := by decide +kernel
theorem dX0_missingOn_1 : decode cX0_missingOn 1 = .ok (.getfield 12, 3) := by decide +kernel
theorem dX0_missingOn_4 : decode cX0_missingOn 4 = .ok (.iload_n 1, 1) := by decide +kernel
theorem dX0_missingOn_5 : decode cX0_missingOn 5 = .ok (.invokevirtual 66, 3) := by decide +kernel
theorem dX0_missingOn_8 : decode cX0_missingOn 8 = .ok (.ifCond .eq 22, 3) := by decide +kernel
theorem dX0_missingOn_11 : decode cX0_missingOn 11 = .ok (.aload_n 0, 1) := by decide +kernel
theorem dX0_missingOn_12 : decode cX0_missingOn 12 = .ok (.getfield 12, 3) := by decide +kernel
theorem dX0_missingOn_15 : decode cX0_missingOn 15 = .ok (.getfield 103, 3) := by decide +kernel
theorem dX0_missingOn_18 : decode cX0_missingOn 18 = .ok (.iload_n 1, 1) := by decide +kernel
theorem dX0_missingOn_19 : decode cX0_missingOn 19 = .ok (.iaload, 1) := by decide +kernel
theorem dX0_missingOn_20 : decode cX0_missingOn 20 = .ok (.aload_n 0, 1) := by decide +kernel
theorem dX0_missingOn_21 : decode cX0_missingOn 21 = .ok (.getfield 29, 3) := by decide +kernel
theorem dX0_missingOn_24 : decode cX0_missingOn 24 = .ok (.iload_n 1, 1) := by decide +kernel
theorem dX0_missingOn_25 : decode cX0_missingOn 25 = .ok (.iaload, 1) := by decide +kernel
theorem dX0_missingOn_26 : decode cX0_missingOn 26 = .ok (.isub, 1) := by decide +kernel
theorem dX0_missingOn_27 : decode cX0_missingOn 27 = .ok (.goto 4, 3) := by decide +kernel
theorem dX0_missingOn_30 : decode cX0_missingOn 30 = .ok (.iconst 0, 1) := by decide +kernel
theorem dX0_missingOn_31 : decode cX0_missingOn 31 = .ok (.ireturn, 1) := by decide +kernel
theorem dX0_load_0 : decode cX0_load 0 = .ok (.aload_n 0, 1) := by decide +kernel
theorem dX0_load_1 : decode cX0_load 1 = .ok (.getfield 29, 3) := by decide +kernel
theorem dX0_load_4 : decode cX0_load 4 = .ok (.iconst 0, 1) := by decide +kernel
theorem dX0_load_5 : decode cX0_load 5 = .ok (.invokestatic 106, 3) := by decide +kernel
theorem dX0_load_8 : decode cX0_load 8 = .ok (.iconst 0, 1) := by decide +kernel
theorem dX0_load_9 : decode cX0_load 9 = .ok (.istore_n 3, 1) := by decide +kernel
theorem dX0_load_10 : decode cX0_load 10 = .ok (.iload_n 3, 1) := by decide +kernel
theorem dX0_load_11 : decode cX0_load 11 = .ok (.aload_n 0, 1) := by decide +kernel
theorem dX0_load_12 : decode cX0_load 12 = .ok (.getfield 53, 3) := by decide +kernel
theorem dX0_load_15 : decode cX0_load 15 = .ok (.if_icmp .ge 73, 3) := by decide +kernel
theorem dX0_load_18 : decode cX0_load 18 = .ok (.aload_n 0, 1) := by decide +kernel
theorem dX0_load_19 : decode cX0_load 19 = .ok (.iload_n 1, 1) := by decide +kernel
theorem dX0_load_20 : decode cX0_load 20 = .ok (.iload_n 3, 1) := by decide +kernel
theorem dX0_load_21 : decode cX0_load 21 = .ok (.invokevirtual 112, 3) := by decide +kernel
theorem dX0_load_24 : decode cX0_load 24 = .ok (.istore 4, 2) := by decide +kernel
theorem dX0_load_26 : decode cX0_load 26 = .ok (.aload_n 0, 1) := by decide +kernel
theorem dX0_load_27 : decode cX0_load 27 = .ok (.iload 4, 2) := by decide +kernel
theorem dX0_load_29 : decode cX0_load 29 = .ok (.ifCond .eq 9, 3) := by decide +kernel
theorem dX0_load_32 : decode cX0_load 32 = .ok (.iload_n 1, 1) := by decide +kernel
theorem dX0_load_33 : decode cX0_load 33 = .ok (.iconst 1, 1) := by decide +kernel
theorem dX0_load_34 : decode cX0_load 34 = .ok (.isub, 1) := by decide +kernel
theorem dX0_load_35 : decode cX0_load 35 = .ok (.goto 4, 3) := by decide +kernel
theorem dX0_load_38 : decode cX0_load 38 = .ok (.iload_n 1, 1) := by decide +kernel
theorem dX0_load_39 : decode cX0_load 39 = .ok (.iload_n 3, 1) := by decide +kernel
theorem dX0_load_40 : decode cX0_load 40 = .ok (.invokevirtual 116, 3) := by decide +kernel
theorem dX0_load_43 : decode cX0_load 43 = .ok (.istore 5, 2) := by decide +kernel
theorem dX0_load_45 : decode cX0_load 45 = .ok (.iload 4, 2) := by decide +kernel
theorem dX0_load_47 : decode cX0_load 47 = .ok (.ifCond .ne 8, 3) := by decide +kernel
theorem dX0_load_50 : decode cX0_load 50 = .ok (.iload_n 3, 1) := by decide +kernel
theorem dX0_load_51 : decode cX0_load 51 = .ok (.iload_n 2, 1) := by decide +kernel
theorem dX0_load_52 : decode cX0_load 52 = .ok (.if_icmp .ge 30, 3) := by decide +kernel
theorem dX0_load_55 : decode cX0_load 55 = .ok (.aload_n 0, 1) := by decide +kernel
theorem dX0_load_56 : decode cX0_load 56 = .ok (.getfield 12, 3) := by decide +kernel
theorem dX0_load_59 : decode cX0_load 59 = .ok (.iload 5, 2) := by decide +kernel
theorem dX0_load_61 : decode cX0_load 61 = .ok (.invokevirtual 66, 3) := by decide +kernel
theorem dX0_load_64 : decode cX0_load 64 = .ok (.ifCond .eq 18, 3) := by decide +kernel
theorem dX0_load_67 : decode cX0_load 67 = .ok (.aload_n 0, 1) := by decide +kernel
theorem dX0_load_68 : decode cX0_load 68 = .ok (.getfield 29, 3) := by decide +kernel
theorem dX0_load_71 : decode cX0_load 71 = .ok (.iload 5, 2) := by decide +kernel
theorem dX0_load_73 : decode cX0_load 73 = .ok (.dup2, 1) := by decide +kernel
theorem dX0_load_74 : decode cX0_load 74 = .ok (.iaload, 1) := by decide +kernel
theorem dX0_load_75 : decode cX0_load 75 = .ok (.aload_n 0, 1) := by decide +kernel
theorem dX0_load_76 : decode cX0_load 76 = .ok (.iload_n 3, 1) := by decide +kernel
theorem dX0_load_77 : decode cX0_load 77 = .ok (.invokevirtual 119, 3) := by decide +kernel
theorem dX0_load_80 : decode cX0_load 80 = .ok (.iadd, 1) := by decide +kernel
theorem dX0_load_81 : decode cX0_load 81 = .ok (.iastore, 1) := by decide +kernel
theorem dX0_load_82 : decode cX0_load 82 = .ok (.iinc 3 1, 3) := by decide +kernel
theorem dX0_load_85 : decode cX0_load 85 = .ok (.goto (-75), 3) := by decide +kernel
theorem dX0_load_88 : decode cX0_load 88 = .ok (.return_, 1) := by decide +kernel
theorem dX0_isBound_0 : decode cX0_isBound 0 = .ok (.iload_n 1, 1) := by decide +kernel
theorem dX0_isBound_1 : decode cX0_isBound 1 = .ok (.iconst 2, 1) := by decide +kernel
theorem dX0_isBound_2 : decode cX0_isBound 2 = .ok (.irem, 1) := by decide +kernel
theorem dX0_isBound_3 : decode cX0_isBound 3 = .ok (.iconst 1, 1) := by decide +kernel
theorem dX0_isBound_4 : decode cX0_isBound 4 = .ok (.if_icmp .ne 33, 3) := by decide +kernel
theorem dX0_isBound_7 : decode cX0_isBound 7 = .ok (.iload_n 2, 1) := by decide +kernel
theorem dX0_isBound_8 : decode cX0_isBound 8 = .ok (.ifCond .lt 29, 3) := by decide +kernel
theorem dX0_isBound_11 : decode cX0_isBound 11 = .ok (.iload_n 2, 1) := by decide +kernel
theorem dX0_isBound_12 : decode cX0_isBound 12 = .ok (.aload_n 0, 1) := by decide +kernel
theorem dX0_isBound_13 : decode cX0_isBound 13 = .ok (.getfield 53, 3) := by decide +kernel
theorem dX0_isBound_16 : decode cX0_isBound 16 = .ok (.if_icmp .ge 21, 3) := by decide +kernel
theorem dX0_isBound_19 : decode cX0_isBound 19 = .ok (.iload_n 2, 1) := by decide +kernel
theorem dX0_isBound_20 : decode cX0_isBound 20 = .ok (.iconst 4, 1) := by decide +kernel
theorem dX0_isBound_21 : decode cX0_isBound 21 = .ok (.if_icmp .ge 16, 3) := by decide +kernel
theorem dX0_isBound_24 : decode cX0_isBound 24 = .ok (.aload_n 0, 1) := by decide +kernel
theorem dX0_isBound_25 : decode cX0_isBound 25 = .ok (.getfield 35, 3) := by decide +kernel
theorem dX0_isBound_28 : decode cX0_isBound 28 = .ok (.iload_n 2, 1) := by decide +kernel
theorem dX0_isBound_29 : decode cX0_isBound 29 = .ok (.baload, 1) := by decide +kernel
theorem dX0_isBound_30 : decode cX0_isBound 30 = .ok (.ifCond .eq 7, 3) := by decide +kernel
theorem dX0_isBound_33 : decode cX0_isBound 33 = .ok (.iconst 1, 1) := by decide +kernel
theorem dX0_isBound_34 : decode cX0_isBound 34 = .ok (.goto 4, 3) := by decide +kernel
theorem dX0_isBound_37 : decode cX0_isBound 37 = .ok (.iconst 0, 1) := by decide +kernel
theorem dX0_isBound_38 : decode cX0_isBound 38 = .ok (.ireturn, 1) := by decide +kernel
theorem dX0_pullOf_0 : decode cX0_pullOf 0 = .ok (.iload_n 1, 1) := by decide +kernel
theorem dX0_pullOf_1 : decode cX0_pullOf 1 = .ok (.ifCond .lt 25, 3) := by decide +kernel
theorem dX0_pullOf_4 : decode cX0_pullOf 4 = .ok (.iload_n 1, 1) := by decide +kernel
theorem dX0_pullOf_5 : decode cX0_pullOf 5 = .ok (.aload_n 0, 1) := by decide +kernel
theorem dX0_pullOf_6 : decode cX0_pullOf 6 = .ok (.getfield 53, 3) := by decide +kernel
theorem dX0_pullOf_9 : decode cX0_pullOf 9 = .ok (.if_icmp .ge 17, 3) := by decide +kernel
theorem dX0_pullOf_12 : decode cX0_pullOf 12 = .ok (.iload_n 1, 1) := by decide +kernel
theorem dX0_pullOf_13 : decode cX0_pullOf 13 = .ok (.iconst 4, 1) := by decide +kernel
theorem dX0_pullOf_14 : decode cX0_pullOf 14 = .ok (.if_icmp .ge 12, 3) := by decide +kernel
theorem dX0_pullOf_17 : decode cX0_pullOf 17 = .ok (.aload_n 0, 1) := by decide +kernel
theorem dX0_pullOf_18 : decode cX0_pullOf 18 = .ok (.getfield 32, 3) := by decide +kernel
theorem dX0_pullOf_21 : decode cX0_pullOf 21 = .ok (.iload_n 1, 1) := by decide +kernel
theorem dX0_pullOf_22 : decode cX0_pullOf 22 = .ok (.iaload, 1) := by decide +kernel
theorem dX0_pullOf_23 : decode cX0_pullOf 23 = .ok (.goto 4, 3) := by decide +kernel
theorem dX0_pullOf_26 : decode cX0_pullOf 26 = .ok (.iconst 0, 1) := by decide +kernel
theorem dX0_pullOf_27 : decode cX0_pullOf 27 = .ok (.ireturn, 1) := by decide +kernel
theorem dX0_findPlan_0 : decode cX0_findPlan 0 = .ok (.aload_n 0, 1) := by decide +kernel
theorem dX0_findPlan_1 : decode cX0_findPlan 1 = .ok (.iload_n 2, 1) := by decide +kernel
theorem dX0_findPlan_2 : decode cX0_findPlan 2 = .ok (.invokevirtual 89, 3) := by decide +kernel
theorem dX0_findPlan_5 : decode cX0_findPlan 5 = .ok (.iconst 0, 1) := by decide +kernel
theorem dX0_findPlan_6 : decode cX0_findPlan 6 = .ok (.istore_n 3, 1) := by decide +kernel
theorem dX0_findPlan_7 : decode cX0_findPlan 7 = .ok (.iload_n 3, 1) := by decide +kernel
theorem dX0_findPlan_8 : decode cX0_findPlan 8 = .ok (.aload_n 0, 1) := by decide +kernel
theorem dX0_findPlan_9 : decode cX0_findPlan 9 = .ok (.getfield 12, 3) := by decide +kernel
theorem dX0_findPlan_12 : decode cX0_findPlan 12 = .ok (.iload_n 1, 1) := by decide +kernel
theorem dX0_findPlan_13 : decode cX0_findPlan 13 = .ok (.invokevirtual 77, 3) := by decide +kernel
theorem dX0_findPlan_16 : decode cX0_findPlan 16 = .ok (.if_icmp .ge 29, 3) := by decide +kernel
theorem dX0_findPlan_19 : decode cX0_findPlan 19 = .ok (.aload_n 0, 1) := by decide +kernel
theorem dX0_findPlan_20 : decode cX0_findPlan 20 = .ok (.getfield 39, 3) := by decide +kernel
theorem dX0_findPlan_23 : decode cX0_findPlan 23 = .ok (.lconst 0, 1) := by decide +kernel
theorem dX0_findPlan_24 : decode cX0_findPlan 24 = .ok (.invokestatic 122, 3) := by decide +kernel
theorem dX0_findPlan_27 : decode cX0_findPlan 27 = .ok (.aload_n 0, 1) := by decide +kernel
theorem dX0_findPlan_28 : decode cX0_findPlan 28 = .ok (.iload_n 1, 1) := by decide +kernel
theorem dX0_findPlan_29 : decode cX0_findPlan 29 = .ok (.iload_n 3, 1) := by decide +kernel
theorem dX0_findPlan_30 : decode cX0_findPlan 30 = .ok (.iconst 0, 1) := by decide +kernel
theorem dX0_findPlan_31 : decode cX0_findPlan 31 = .ok (.invokevirtual 125, 3) := by decide +kernel
theorem dX0_findPlan_34 : decode cX0_findPlan 34 = .ok (.ifCond .ne 5, 3) := by decide +kernel
theorem dX0_findPlan_37 : decode cX0_findPlan 37 = .ok (.iconst 0, 1) := by decide +kernel
theorem dX0_findPlan_38 : decode cX0_findPlan 38 = .ok (.ireturn, 1) := by decide +kernel
theorem dX0_findPlan_39 : decode cX0_findPlan 39 = .ok (.iinc 3 2, 3) := by decide +kernel
theorem dX0_findPlan_42 : decode cX0_findPlan 42 = .ok (.goto (-35), 3) := by decide +kernel
theorem dX0_findPlan_45 : decode cX0_findPlan 45 = .ok (.iconst 1, 1) := by decide +kernel
theorem dX0_findPlan_46 : decode cX0_findPlan 46 = .ok (.ireturn, 1) := by decide +kernel
theorem dX0_place_0 : decode cX0_place 0 = .ok (.aload_n 0, 1) := by decide +kernel
theorem dX0_place_1 : decode cX0_place 1 = .ok (.aload_n 0, 1) := by decide +kernel
theorem dX0_place_2 : decode cX0_place 2 = .ok (.getfield 12, 3) := by decide +kernel
theorem dX0_place_5 : decode cX0_place 5 = .ok (.iload_n 1, 1) := by decide +kernel
theorem dX0_place_6 : decode cX0_place 6 = .ok (.iload_n 2, 1) := by decide +kernel
theorem dX0_place_7 : decode cX0_place 7 = .ok (.invokevirtual 86, 3) := by decide +kernel
theorem dX0_place_10 : decode cX0_place 10 = .ok (.iload_n 2, 1) := by decide +kernel
theorem dX0_place_11 : decode cX0_place 11 = .ok (.iload_n 3, 1) := by decide +kernel
theorem dX0_place_12 : decode cX0_place 12 = .ok (.invokevirtual 129, 3) := by decide +kernel
theorem dX0_place_15 : decode cX0_place 15 = .ok (.ifCond .ne 5, 3) := by decide +kernel
theorem dX0_place_18 : decode cX0_place 18 = .ok (.iconst 0, 1) := by decide +kernel
theorem dX0_place_19 : decode cX0_place 19 = .ok (.ireturn, 1) := by decide +kernel
theorem dX0_place_20 : decode cX0_place 20 = .ok (.iload_n 3, 1) := by decide +kernel
theorem dX0_place_21 : decode cX0_place 21 = .ok (.aload_n 0, 1) := by decide +kernel
theorem dX0_place_22 : decode cX0_place 22 = .ok (.getfield 53, 3) := by decide +kernel
theorem dX0_place_25 : decode cX0_place 25 = .ok (.if_icmp .lt 41, 3) := by decide +kernel
theorem dX0_place_28 : decode cX0_place 28 = .ok (.iload_n 2, 1) := by decide +kernel
theorem dX0_place_29 : decode cX0_place 29 = .ok (.iconst 2, 1) := by decide +kernel
theorem dX0_place_30 : decode cX0_place 30 = .ok (.irem, 1) := by decide +kernel
theorem dX0_place_31 : decode cX0_place 31 = .ok (.iconst 1, 1) := by decide +kernel
theorem dX0_place_32 : decode cX0_place 32 = .ok (.if_icmp .eq 28, 3) := by decide +kernel
theorem dX0_place_35 : decode cX0_place 35 = .ok (.aload_n 0, 1) := by decide +kernel
theorem dX0_place_36 : decode cX0_place 36 = .ok (.getfield 12, 3) := by decide +kernel
theorem dX0_place_39 : decode cX0_place 39 = .ok (.iload_n 1, 1) := by decide +kernel
theorem dX0_place_40 : decode cX0_place 40 = .ok (.iload_n 2, 1) := by decide +kernel
theorem dX0_place_41 : decode cX0_place 41 = .ok (.iconst 1, 1) := by decide +kernel
theorem dX0_place_42 : decode cX0_place 42 = .ok (.iadd, 1) := by decide +kernel
theorem dX0_place_43 : decode cX0_place 43 = .ok (.invokevirtual 132, 3) := by decide +kernel
theorem dX0_place_46 : decode cX0_place 46 = .ok (.ifCond .eq 14, 3) := by decide +kernel
theorem dX0_place_49 : decode cX0_place 49 = .ok (.aload_n 0, 1) := by decide +kernel
theorem dX0_place_50 : decode cX0_place 50 = .ok (.iload_n 1, 1) := by decide +kernel
theorem dX0_place_51 : decode cX0_place 51 = .ok (.iload_n 2, 1) := by decide +kernel
theorem dX0_place_52 : decode cX0_place 52 = .ok (.iconst 1, 1) := by decide +kernel
theorem dX0_place_53 : decode cX0_place 53 = .ok (.iadd, 1) := by decide +kernel
theorem dX0_place_54 : decode cX0_place 54 = .ok (.invokevirtual 135, 3) := by decide +kernel
theorem dX0_place_57 : decode cX0_place 57 = .ok (.ifCond .eq 7, 3) := by decide +kernel
theorem dX0_place_60 : decode cX0_place 60 = .ok (.iconst 1, 1) := by decide +kernel
theorem dX0_place_61 : decode cX0_place 61 = .ok (.goto 4, 3) := by decide +kernel
theorem dX0_place_64 : decode cX0_place 64 = .ok (.iconst 0, 1) := by decide +kernel
theorem dX0_place_65 : decode cX0_place 65 = .ok (.ireturn, 1) := by decide +kernel
theorem dX0_place_66 : decode cX0_place 66 = .ok (.aload_n 0, 1) := by decide +kernel
theorem dX0_place_67 : decode cX0_place 67 = .ok (.iload_n 2, 1) := by decide +kernel
theorem dX0_place_68 : decode cX0_place 68 = .ok (.iload_n 3, 1) := by decide +kernel
theorem dX0_place_69 : decode cX0_place 69 = .ok (.invokevirtual 112, 3) := by decide +kernel
theorem dX0_place_72 : decode cX0_place 72 = .ok (.ifCond .eq 20, 3) := by decide +kernel
theorem dX0_place_75 : decode cX0_place 75 = .ok (.aload_n 0, 1) := by decide +kernel
theorem dX0_place_76 : decode cX0_place 76 = .ok (.iload_n 2, 1) := by decide +kernel
theorem dX0_place_77 : decode cX0_place 77 = .ok (.iload_n 3, 1) := by decide +kernel
theorem dX0_place_78 : decode cX0_place 78 = .ok (.iconst 0, 1) := by decide +kernel
theorem dX0_place_79 : decode cX0_place 79 = .ok (.invokevirtual 70, 3) := by decide +kernel
theorem dX0_place_82 : decode cX0_place 82 = .ok (.aload_n 0, 1) := by decide +kernel
theorem dX0_place_83 : decode cX0_place 83 = .ok (.iload_n 1, 1) := by decide +kernel
theorem dX0_place_84 : decode cX0_place 84 = .ok (.iload_n 2, 1) := by decide +kernel
theorem dX0_place_85 : decode cX0_place 85 = .ok (.iload_n 3, 1) := by decide +kernel
theorem dX0_place_86 : decode cX0_place 86 = .ok (.iconst 1, 1) := by decide +kernel
theorem dX0_place_87 : decode cX0_place 87 = .ok (.iadd, 1) := by decide +kernel
theorem dX0_place_88 : decode cX0_place 88 = .ok (.invokevirtual 125, 3) := by decide +kernel
theorem dX0_place_91 : decode cX0_place 91 = .ok (.ireturn, 1) := by decide +kernel
theorem dX0_place_92 : decode cX0_place 92 = .ok (.iconst 0, 1) := by decide +kernel
theorem dX0_place_93 : decode cX0_place 93 = .ok (.istore 4, 2) := by decide +kernel
theorem dX0_place_95 : decode cX0_place 95 = .ok (.iload 4, 2) := by decide +kernel
theorem dX0_place_97 : decode cX0_place 97 = .ok (.aload_n 0, 1) := by decide +kernel
theorem dX0_place_98 : decode cX0_place 98 = .ok (.getfield 12, 3) := by decide +kernel
theorem dX0_place_101 : decode cX0_place 101 = .ok (.getfield 97, 3) := by decide +kernel
theorem dX0_place_104 : decode cX0_place 104 = .ok (.if_icmp .ge 31, 3) := by decide +kernel
theorem dX0_place_107 : decode cX0_place 107 = .ok (.aload_n 0, 1) := by decide +kernel
theorem dX0_place_108 : decode cX0_place 108 = .ok (.iload_n 2, 1) := by decide +kernel
theorem dX0_place_109 : decode cX0_place 109 = .ok (.iload_n 3, 1) := by decide +kernel
theorem dX0_place_110 : decode cX0_place 110 = .ok (.iload 4, 2) := by decide +kernel
theorem dX0_place_112 : decode cX0_place 112 = .ok (.invokevirtual 70, 3) := by decide +kernel
theorem dX0_place_115 : decode cX0_place 115 = .ok (.aload_n 0, 1) := by decide +kernel
theorem dX0_place_116 : decode cX0_place 116 = .ok (.iload_n 1, 1) := by decide +kernel
theorem dX0_place_117 : decode cX0_place 117 = .ok (.iload_n 2, 1) := by decide +kernel
theorem dX0_place_118 : decode cX0_place 118 = .ok (.iload_n 3, 1) := by decide +kernel
theorem dX0_place_119 : decode cX0_place 119 = .ok (.iconst 1, 1) := by decide +kernel
theorem dX0_place_120 : decode cX0_place 120 = .ok (.iadd, 1) := by decide +kernel
theorem dX0_place_121 : decode cX0_place 121 = .ok (.invokevirtual 125, 3) := by decide +kernel
theorem dX0_place_124 : decode cX0_place 124 = .ok (.ifCond .eq 5, 3) := by decide +kernel
theorem dX0_place_127 : decode cX0_place 127 = .ok (.iconst 1, 1) := by decide +kernel
theorem dX0_place_128 : decode cX0_place 128 = .ok (.ireturn, 1) := by decide +kernel
theorem dX0_place_129 : decode cX0_place 129 = .ok (.iinc 4 1, 3) := by decide +kernel
theorem dX0_place_132 : decode cX0_place 132 = .ok (.goto (-37), 3) := by decide +kernel
theorem dX0_place_135 : decode cX0_place 135 = .ok (.iconst 0, 1) := by decide +kernel
theorem dX0_place_136 : decode cX0_place 136 = .ok (.ireturn, 1) := by decide +kernel
theorem dX0_placeBehind_0 : decode cX0_placeBehind 0 = .ok (.aload_n 0, 1) := by decide +kernel
theorem dX0_placeBehind_1 : decode cX0_placeBehind 1 = .ok (.iload_n 2, 1) := by decide +kernel
theorem dX0_placeBehind_2 : decode cX0_placeBehind 2 = .ok (.invokevirtual 138, 3) := by decide +kernel
theorem dX0_placeBehind_5 : decode cX0_placeBehind 5 = .ok (.istore_n 3, 1) := by decide +kernel
theorem dX0_placeBehind_6 : decode cX0_placeBehind 6 = .ok (.iload_n 3, 1) := by decide +kernel
theorem dX0_placeBehind_7 : decode cX0_placeBehind 7 = .ok (.bipush 64, 2) := by decide +kernel
theorem dX0_placeBehind_9 : decode cX0_placeBehind 9 = .ok (.idiv, 1) := by decide +kernel
theorem dX0_placeBehind_10 : decode cX0_placeBehind 10 = .ok (.istore 4, 2) := by decide +kernel
theorem dX0_placeBehind_12 : decode cX0_placeBehind 12 = .ok (.iload 4, 2) := by decide +kernel
theorem dX0_placeBehind_14 : decode cX0_placeBehind 14 = .ok (.ifCond .lt 32, 3) := by decide +kernel
theorem dX0_placeBehind_17 : decode cX0_placeBehind 17 = .ok (.iload 4, 2) := by decide +kernel
theorem dX0_placeBehind_19 : decode cX0_placeBehind 19 = .ok (.aload_n 0, 1) := by decide +kernel
theorem dX0_placeBehind_20 : decode cX0_placeBehind 20 = .ok (.getfield 39, 3) := by decide +kernel
theorem dX0_placeBehind_23 : decode cX0_placeBehind 23 = .ok (.arraylength, 1) := by decide +kernel
theorem dX0_placeBehind_24 : decode cX0_placeBehind 24 = .ok (.if_icmp .ge 22, 3) := by decide +kernel
theorem dX0_placeBehind_27 : decode cX0_placeBehind 27 = .ok (.aload_n 0, 1) := by decide +kernel
theorem dX0_placeBehind_28 : decode cX0_placeBehind 28 = .ok (.getfield 39, 3) := by decide +kernel
theorem dX0_placeBehind_31 : decode cX0_placeBehind 31 = .ok (.iload 4, 2) := by decide +kernel
theorem dX0_placeBehind_33 : decode cX0_placeBehind 33 = .ok (.laload, 1) := by decide +kernel
theorem dX0_placeBehind_34 : decode cX0_placeBehind 34 = .ok (.iload_n 3, 1) := by decide +kernel
theorem dX0_placeBehind_35 : decode cX0_placeBehind 35 = .ok (.bipush 64, 2) := by decide +kernel
theorem dX0_placeBehind_37 : decode cX0_placeBehind 37 = .ok (.irem, 1) := by decide +kernel
theorem dX0_placeBehind_38 : decode cX0_placeBehind 38 = .ok (.lushr, 1) := by decide +kernel
theorem dX0_placeBehind_39 : decode cX0_placeBehind 39 = .ok (.lconst 1, 1) := by decide +kernel
theorem dX0_placeBehind_40 : decode cX0_placeBehind 40 = .ok (.land, 1) := by decide +kernel
theorem dX0_placeBehind_41 : decode cX0_placeBehind 41 = .ok (.lconst 0, 1) := by decide +kernel
theorem dX0_placeBehind_42 : decode cX0_placeBehind 42 = .ok (.lcmp, 1) := by decide +kernel
theorem dX0_placeBehind_43 : decode cX0_placeBehind 43 = .ok (.ifCond .eq 5, 3) := by decide +kernel
theorem dX0_placeBehind_46 : decode cX0_placeBehind 46 = .ok (.iconst 0, 1) := by decide +kernel
theorem dX0_placeBehind_47 : decode cX0_placeBehind 47 = .ok (.ireturn, 1) := by decide +kernel
theorem dX0_placeBehind_48 : decode cX0_placeBehind 48 = .ok (.aload_n 0, 1) := by decide +kernel
theorem dX0_placeBehind_49 : decode cX0_placeBehind 49 = .ok (.getfield 39, 3) := by decide +kernel
theorem dX0_placeBehind_52 : decode cX0_placeBehind 52 = .ok (.iload 4, 2) := by decide +kernel
theorem dX0_placeBehind_54 : decode cX0_placeBehind 54 = .ok (.dup2, 1) := by decide +kernel
theorem dX0_placeBehind_55 : decode cX0_placeBehind 55 = .ok (.laload, 1) := by decide +kernel
theorem dX0_placeBehind_56 : decode cX0_placeBehind 56 = .ok (.lconst 1, 1) := by decide +kernel
theorem dX0_placeBehind_57 : decode cX0_placeBehind 57 = .ok (.iload_n 3, 1) := by decide +kernel
theorem dX0_placeBehind_58 : decode cX0_placeBehind 58 = .ok (.bipush 64, 2) := by decide +kernel
theorem dX0_placeBehind_60 : decode cX0_placeBehind 60 = .ok (.irem, 1) := by decide +kernel
theorem dX0_placeBehind_61 : decode cX0_placeBehind 61 = .ok (.lshl, 1) := by decide +kernel
theorem dX0_placeBehind_62 : decode cX0_placeBehind 62 = .ok (.lor, 1) := by decide +kernel
theorem dX0_placeBehind_63 : decode cX0_placeBehind 63 = .ok (.lastore, 1) := by decide +kernel
theorem dX0_placeBehind_64 : decode cX0_placeBehind 64 = .ok (.aload_n 0, 1) := by decide +kernel
theorem dX0_placeBehind_65 : decode cX0_placeBehind 65 = .ok (.iload_n 1, 1) := by decide +kernel
theorem dX0_placeBehind_66 : decode cX0_placeBehind 66 = .ok (.iload_n 2, 1) := by decide +kernel
theorem dX0_placeBehind_67 : decode cX0_placeBehind 67 = .ok (.iconst 0, 1) := by decide +kernel
theorem dX0_placeBehind_68 : decode cX0_placeBehind 68 = .ok (.invokevirtual 125, 3) := by decide +kernel
theorem dX0_placeBehind_71 : decode cX0_placeBehind 71 = .ok (.ireturn, 1) := by decide +kernel
theorem dX0_limpersRow_0 : decode cX0_limpersRow 0 = .ok (.iconst 0, 1) := by decide +kernel
theorem dX0_limpersRow_1 : decode cX0_limpersRow 1 = .ok (.istore_n 2, 1) := by decide +kernel
theorem dX0_limpersRow_2 : decode cX0_limpersRow 2 = .ok (.iconst 0, 1) := by decide +kernel
theorem dX0_limpersRow_3 : decode cX0_limpersRow 3 = .ok (.istore_n 3, 1) := by decide +kernel
theorem dX0_limpersRow_4 : decode cX0_limpersRow 4 = .ok (.iload_n 3, 1) := by decide +kernel
theorem dX0_limpersRow_5 : decode cX0_limpersRow 5 = .ok (.aload_n 0, 1) := by decide +kernel
theorem dX0_limpersRow_6 : decode cX0_limpersRow 6 = .ok (.getfield 53, 3) := by decide +kernel
theorem dX0_limpersRow_9 : decode cX0_limpersRow 9 = .ok (.if_icmp .ge 36, 3) := by decide +kernel
theorem dX0_limpersRow_12 : decode cX0_limpersRow 12 = .ok (.bipush 7, 2) := by decide +kernel
theorem dX0_limpersRow_14 : decode cX0_limpersRow 14 = .ok (.iload_n 2, 1) := by decide +kernel
theorem dX0_limpersRow_15 : decode cX0_limpersRow 15 = .ok (.imul, 1) := by decide +kernel
theorem dX0_limpersRow_16 : decode cX0_limpersRow 16 = .ok (.aload_n 0, 1) := by decide +kernel
theorem dX0_limpersRow_17 : decode cX0_limpersRow 17 = .ok (.iload_n 1, 1) := by decide +kernel
theorem dX0_limpersRow_18 : decode cX0_limpersRow 18 = .ok (.iload_n 3, 1) := by decide +kernel
theorem dX0_limpersRow_19 : decode cX0_limpersRow 19 = .ok (.invokevirtual 112, 3) := by decide +kernel
theorem dX0_limpersRow_22 : decode cX0_limpersRow 22 = .ok (.ifCond .eq 14, 3) := by decide +kernel
theorem dX0_limpersRow_25 : decode cX0_limpersRow 25 = .ok (.aload_n 0, 1) := by decide +kernel
theorem dX0_limpersRow_26 : decode cX0_limpersRow 26 = .ok (.iload_n 1, 1) := by decide +kernel
theorem dX0_limpersRow_27 : decode cX0_limpersRow 27 = .ok (.iconst 1, 1) := by decide +kernel
theorem dX0_limpersRow_28 : decode cX0_limpersRow 28 = .ok (.isub, 1) := by decide +kernel
theorem dX0_limpersRow_29 : decode cX0_limpersRow 29 = .ok (.iload_n 3, 1) := by decide +kernel
theorem dX0_limpersRow_30 : decode cX0_limpersRow 30 = .ok (.invokevirtual 116, 3) := by decide +kernel
theorem dX0_limpersRow_33 : decode cX0_limpersRow 33 = .ok (.goto 4, 3) := by decide +kernel
theorem dX0_limpersRow_36 : decode cX0_limpersRow 36 = .ok (.iconst 0, 1) := by decide +kernel
theorem dX0_limpersRow_37 : decode cX0_limpersRow 37 = .ok (.iadd, 1) := by decide +kernel
theorem dX0_limpersRow_38 : decode cX0_limpersRow 38 = .ok (.istore_n 2, 1) := by decide +kernel
theorem dX0_limpersRow_39 : decode cX0_limpersRow 39 = .ok (.iinc 3 1, 3) := by decide +kernel
theorem dX0_limpersRow_42 : decode cX0_limpersRow 42 = .ok (.goto (-38), 3) := by decide +kernel
theorem dX0_limpersRow_45 : decode cX0_limpersRow 45 = .ok (.iload_n 2, 1) := by decide +kernel
theorem dX0_limpersRow_46 : decode cX0_limpersRow 46 = .ok (.ireturn, 1) := by decide +kernel
theorem dX0_rowsFor_0 : decode cX0_rowsFor 0 = .ok (.aload_n 0, 1) := by decide +kernel
theorem dX0_rowsFor_1 : decode cX0_rowsFor 1 = .ok (.iconst 0, 1) := by decide +kernel
theorem dX0_rowsFor_2 : decode cX0_rowsFor 2 = .ok (.invokevirtual 89, 3) := by decide +kernel
theorem dX0_rowsFor_5 : decode cX0_rowsFor 5 = .ok (.aload_n 0, 1) := by decide +kernel
theorem dX0_rowsFor_6 : decode cX0_rowsFor 6 = .ok (.iload_n 1, 1) := by decide +kernel
theorem dX0_rowsFor_7 : decode cX0_rowsFor 7 = .ok (.iconst 0, 1) := by decide +kernel
theorem dX0_rowsFor_8 : decode cX0_rowsFor 8 = .ok (.invokevirtual 141, 3) := by decide +kernel
theorem dX0_rowsFor_11 : decode cX0_rowsFor 11 = .ok (.lreturn, 1) := by decide +kernel
theorem dX0_countRows_0 : decode cX0_countRows 0 = .ok (.aload_n 0, 1) := by decide +kernel
theorem dX0_countRows_1 : decode cX0_countRows 1 = .ok (.iload_n 1, 1) := by decide +kernel
theorem dX0_countRows_2 : decode cX0_countRows 2 = .ok (.iconst 0, 1) := by decide +kernel
theorem dX0_countRows_3 : decode cX0_countRows 3 = .ok (.iload_n 2, 1) := by decide +kernel
theorem dX0_countRows_4 : decode cX0_countRows 4 = .ok (.invokevirtual 129, 3) := by decide +kernel
theorem dX0_countRows_7 : decode cX0_countRows 7 = .ok (.ifCond .ne 5, 3) := by decide +kernel
theorem dX0_countRows_10 : decode cX0_countRows 10 = .ok (.lconst 0, 1) := by decide +kernel
theorem dX0_countRows_11 : decode cX0_countRows 11 = .ok (.lreturn, 1) := by decide +kernel
theorem dX0_countRows_12 : decode cX0_countRows 12 = .ok (.iload_n 2, 1) := by decide +kernel
theorem dX0_countRows_13 : decode cX0_countRows 13 = .ok (.aload_n 0, 1) := by decide +kernel
theorem dX0_countRows_14 : decode cX0_countRows 14 = .ok (.getfield 53, 3) := by decide +kernel
theorem dX0_countRows_17 : decode cX0_countRows 17 = .ok (.if_icmp .lt 5, 3) := by decide +kernel
theorem dX0_countRows_20 : decode cX0_countRows 20 = .ok (.lconst 1, 1) := by decide +kernel
theorem dX0_countRows_21 : decode cX0_countRows 21 = .ok (.lreturn, 1) := by decide +kernel
theorem dX0_countRows_22 : decode cX0_countRows 22 = .ok (.lconst 0, 1) := by decide +kernel
theorem dX0_countRows_23 : decode cX0_countRows 23 = .ok (.lstore_n 3, 1) := by decide +kernel
theorem dX0_countRows_24 : decode cX0_countRows 24 = .ok (.iconst 0, 1) := by decide +kernel
theorem dX0_countRows_25 : decode cX0_countRows 25 = .ok (.istore 5, 2) := by decide +kernel
theorem dX0_countRows_27 : decode cX0_countRows 27 = .ok (.iload 5, 2) := by decide +kernel
theorem dX0_countRows_29 : decode cX0_countRows 29 = .ok (.aload_n 0, 1) := by decide +kernel
theorem dX0_countRows_30 : decode cX0_countRows 30 = .ok (.getfield 12, 3) := by decide +kernel
theorem dX0_countRows_33 : decode cX0_countRows 33 = .ok (.getfield 97, 3) := by decide +kernel
theorem dX0_countRows_36 : decode cX0_countRows 36 = .ok (.if_icmp .ge 28, 3) := by decide +kernel
theorem dX0_countRows_39 : decode cX0_countRows 39 = .ok (.aload_n 0, 1) := by decide +kernel
theorem dX0_countRows_40 : decode cX0_countRows 40 = .ok (.iconst 0, 1) := by decide +kernel
theorem dX0_countRows_41 : decode cX0_countRows 41 = .ok (.iload_n 2, 1) := by decide +kernel
theorem dX0_countRows_42 : decode cX0_countRows 42 = .ok (.iload 5, 2) := by decide +kernel
theorem dX0_countRows_44 : decode cX0_countRows 44 = .ok (.invokevirtual 70, 3) := by decide +kernel
theorem dX0_countRows_47 : decode cX0_countRows 47 = .ok (.lload_n 3, 1) := by decide +kernel
theorem dX0_countRows_48 : decode cX0_countRows 48 = .ok (.aload_n 0, 1) := by decide +kernel
theorem dX0_countRows_49 : decode cX0_countRows 49 = .ok (.iload_n 1, 1) := by decide +kernel
theorem dX0_countRows_50 : decode cX0_countRows 50 = .ok (.iload_n 2, 1) := by decide +kernel
theorem dX0_countRows_51 : decode cX0_countRows 51 = .ok (.iconst 1, 1) := by decide +kernel
theorem dX0_countRows_52 : decode cX0_countRows 52 = .ok (.iadd, 1) := by decide +kernel
theorem dX0_countRows_53 : decode cX0_countRows 53 = .ok (.invokevirtual 141, 3) := by decide +kernel
theorem dX0_countRows_56 : decode cX0_countRows 56 = .ok (.ladd, 1) := by decide +kernel
theorem dX0_countRows_57 : decode cX0_countRows 57 = .ok (.lstore_n 3, 1) := by decide +kernel
theorem dX0_countRows_58 : decode cX0_countRows 58 = .ok (.iinc 5 1, 3) := by decide +kernel
theorem dX0_countRows_61 : decode cX0_countRows 61 = .ok (.goto (-34), 3) := by decide +kernel
theorem dX0_countRows_64 : decode cX0_countRows 64 = .ok (.lload_n 3, 1) := by decide +kernel
theorem dX0_countRows_65 : decode cX0_countRows 65 = .ok (.lreturn, 1) := by decide +kernel
theorem dX0_isOpen_0 : decode cX0_isOpen 0 = .ok (.aload_n 0, 1) := by decide +kernel
theorem dX0_isOpen_1 : decode cX0_isOpen 1 = .ok (.iload_n 2, 1) := by decide +kernel
theorem dX0_isOpen_2 : decode cX0_isOpen 2 = .ok (.iload_n 3, 1) := by decide +kernel
theorem dX0_isOpen_3 : decode cX0_isOpen 3 = .ok (.invokevirtual 93, 3) := by decide +kernel
theorem dX0_isOpen_6 : decode cX0_isOpen 6 = .ok (.iconst 0, 1) := by decide +kernel
theorem dX0_isOpen_7 : decode cX0_isOpen 7 = .ok (.istore 4, 2) := by decide +kernel
theorem dX0_isOpen_9 : decode cX0_isOpen 9 = .ok (.iconst 0, 1) := by decide +kernel
theorem dX0_isOpen_10 : decode cX0_isOpen 10 = .ok (.istore 5, 2) := by decide +kernel
theorem dX0_isOpen_12 : decode cX0_isOpen 12 = .ok (.iload 5, 2) := by decide +kernel
theorem dX0_isOpen_14 : decode cX0_isOpen 14 = .ok (.aload_n 0, 1) := by decide +kernel
theorem dX0_isOpen_15 : decode cX0_isOpen 15 = .ok (.getfield 12, 3) := by decide +kernel
theorem dX0_isOpen_18 : decode cX0_isOpen 18 = .ok (.getfield 97, 3) := by decide +kernel
theorem dX0_isOpen_21 : decode cX0_isOpen 21 = .ok (.if_icmp .ge 62, 3) := by decide +kernel
theorem dX0_isOpen_24 : decode cX0_isOpen 24 = .ok (.aload_n 0, 1) := by decide +kernel
theorem dX0_isOpen_25 : decode cX0_isOpen 25 = .ok (.iload 5, 2) := by decide +kernel
theorem dX0_isOpen_27 : decode cX0_isOpen 27 = .ok (.invokevirtual 100, 3) := by decide +kernel
theorem dX0_isOpen_30 : decode cX0_isOpen 30 = .ok (.istore 6, 2) := by decide +kernel
theorem dX0_isOpen_32 : decode cX0_isOpen 32 = .ok (.iload_n 1, 1) := by decide +kernel
theorem dX0_isOpen_33 : decode cX0_isOpen 33 = .ok (.iload 5, 2) := by decide +kernel
theorem dX0_isOpen_35 : decode cX0_isOpen 35 = .ok (.ishr, 1) := by decide +kernel
theorem dX0_isOpen_36 : decode cX0_isOpen 36 = .ok (.iconst 1, 1) := by decide +kernel
theorem dX0_isOpen_37 : decode cX0_isOpen 37 = .ok (.iand, 1) := by decide +kernel
theorem dX0_isOpen_38 : decode cX0_isOpen 38 = .ok (.ifCond .eq 7, 3) := by decide +kernel
theorem dX0_isOpen_41 : decode cX0_isOpen 41 = .ok (.iconst 1, 1) := by decide +kernel
theorem dX0_isOpen_42 : decode cX0_isOpen 42 = .ok (.goto 4, 3) := by decide +kernel
theorem dX0_isOpen_45 : decode cX0_isOpen 45 = .ok (.iconst 0, 1) := by decide +kernel
theorem dX0_isOpen_46 : decode cX0_isOpen 46 = .ok (.istore 7, 2) := by decide +kernel
theorem dX0_isOpen_48 : decode cX0_isOpen 48 = .ok (.iload 7, 2) := by decide +kernel
theorem dX0_isOpen_50 : decode cX0_isOpen 50 = .ok (.ifCond .ne 10, 3) := by decide +kernel
theorem dX0_isOpen_53 : decode cX0_isOpen 53 = .ok (.iload 6, 2) := by decide +kernel
theorem dX0_isOpen_55 : decode cX0_isOpen 55 = .ok (.ifCond .gt 5, 3) := by decide +kernel
theorem dX0_isOpen_58 : decode cX0_isOpen 58 = .ok (.iconst 0, 1) := by decide +kernel
theorem dX0_isOpen_59 : decode cX0_isOpen 59 = .ok (.ireturn, 1) := by decide +kernel
theorem dX0_isOpen_60 : decode cX0_isOpen 60 = .ok (.iload 7, 2) := by decide +kernel
theorem dX0_isOpen_62 : decode cX0_isOpen 62 = .ok (.ifCond .eq 15, 3) := by decide +kernel
theorem dX0_isOpen_65 : decode cX0_isOpen 65 = .ok (.iload 6, 2) := by decide +kernel
theorem dX0_isOpen_67 : decode cX0_isOpen 67 = .ok (.ifCond .le 10, 3) := by decide +kernel
theorem dX0_isOpen_70 : decode cX0_isOpen 70 = .ok (.iload 4, 2) := by decide +kernel
theorem dX0_isOpen_72 : decode cX0_isOpen 72 = .ok (.iload 6, 2) := by decide +kernel
theorem dX0_isOpen_74 : decode cX0_isOpen 74 = .ok (.iadd, 1) := by decide +kernel
theorem dX0_isOpen_75 : decode cX0_isOpen 75 = .ok (.istore 4, 2) := by decide +kernel
theorem dX0_isOpen_77 : decode cX0_isOpen 77 = .ok (.iinc 5 1, 3) := by decide +kernel
theorem dX0_isOpen_80 : decode cX0_isOpen 80 = .ok (.goto (-68), 3) := by decide +kernel
theorem dX0_isOpen_83 : decode cX0_isOpen 83 = .ok (.iload 4, 2) := by decide +kernel
theorem dX0_isOpen_85 : decode cX0_isOpen 85 = .ok (.aload_n 0, 1) := by decide +kernel
theorem dX0_isOpen_86 : decode cX0_isOpen 86 = .ok (.iload_n 2, 1) := by decide +kernel
theorem dX0_isOpen_87 : decode cX0_isOpen 87 = .ok (.iload_n 3, 1) := by decide +kernel
theorem dX0_isOpen_88 : decode cX0_isOpen 88 = .ok (.invokevirtual 145, 3) := by decide +kernel
theorem dX0_isOpen_91 : decode cX0_isOpen 91 = .ok (.if_icmp .gt 7, 3) := by decide +kernel
theorem dX0_isOpen_94 : decode cX0_isOpen 94 = .ok (.iconst 1, 1) := by decide +kernel
theorem dX0_isOpen_95 : decode cX0_isOpen 95 = .ok (.goto 4, 3) := by decide +kernel
theorem dX0_isOpen_98 : decode cX0_isOpen 98 = .ok (.iconst 0, 1) := by decide +kernel
theorem dX0_isOpen_99 : decode cX0_isOpen 99 = .ok (.ireturn, 1) := by decide +kernel
theorem dX0_weightToCome_0 : decode cX0_weightToCome 0 = .ok (.iconst 0, 1) := by decide +kernel
theorem dX0_weightToCome_1 : decode cX0_weightToCome 1 = .ok (.istore_n 3, 1) := by decide +kernel
theorem dX0_weightToCome_2 : decode cX0_weightToCome 2 = .ok (.iload_n 2, 1) := by decide +kernel
theorem dX0_weightToCome_3 : decode cX0_weightToCome 3 = .ok (.istore 4, 2) := by decide +kernel
theorem dX0_weightToCome_5 : decode cX0_weightToCome 5 = .ok (.iload 4, 2) := by decide +kernel
theorem dX0_weightToCome_7 : decode cX0_weightToCome 7 = .ok (.aload_n 0, 1) := by decide +kernel
theorem dX0_weightToCome_8 : decode cX0_weightToCome 8 = .ok (.getfield 53, 3) := by decide +kernel
theorem dX0_weightToCome_11 : decode cX0_weightToCome 11 = .ok (.if_icmp .ge 28, 3) := by decide +kernel
theorem dX0_weightToCome_14 : decode cX0_weightToCome 14 = .ok (.aload_n 0, 1) := by decide +kernel
theorem dX0_weightToCome_15 : decode cX0_weightToCome 15 = .ok (.iload_n 1, 1) := by decide +kernel
theorem dX0_weightToCome_16 : decode cX0_weightToCome 16 = .ok (.iload 4, 2) := by decide +kernel
theorem dX0_weightToCome_18 : decode cX0_weightToCome 18 = .ok (.invokevirtual 112, 3) := by decide +kernel
theorem dX0_weightToCome_21 : decode cX0_weightToCome 21 = .ok (.ifCond .ne 12, 3) := by decide +kernel
theorem dX0_weightToCome_24 : decode cX0_weightToCome 24 = .ok (.iload_n 3, 1) := by decide +kernel
theorem dX0_weightToCome_25 : decode cX0_weightToCome 25 = .ok (.aload_n 0, 1) := by decide +kernel
theorem dX0_weightToCome_26 : decode cX0_weightToCome 26 = .ok (.iload 4, 2) := by decide +kernel
theorem dX0_weightToCome_28 : decode cX0_weightToCome 28 = .ok (.invokevirtual 119, 3) := by decide +kernel
theorem dX0_weightToCome_31 : decode cX0_weightToCome 31 = .ok (.iadd, 1) := by decide +kernel
theorem dX0_weightToCome_32 : decode cX0_weightToCome 32 = .ok (.istore_n 3, 1) := by decide +kernel
theorem dX0_weightToCome_33 : decode cX0_weightToCome 33 = .ok (.iinc 4 1, 3) := by decide +kernel
theorem dX0_weightToCome_36 : decode cX0_weightToCome 36 = .ok (.goto (-31), 3) := by decide +kernel
theorem dX0_weightToCome_39 : decode cX0_weightToCome 39 = .ok (.iload_n 3, 1) := by decide +kernel
theorem dX0_weightToCome_40 : decode cX0_weightToCome 40 = .ok (.ireturn, 1) := by decide +kernel
theorem dX1_init_0 : decode cX1_init 0 = .ok (.aload_n 0, 1) := by decide +kernel
theorem dX1_init_1 : decode cX1_init 1 = .ok (.invokespecial 3, 3) := by decide +kernel
theorem dX1_init_4 : decode cX1_init 4 = .ok (.aload_n 0, 1) := by decide +kernel
theorem dX1_init_5 : decode cX1_init 5 = .ok (.bipush 6, 2) := by decide +kernel
theorem dX1_init_7 : decode cX1_init 7 = .ok (.newarray .int, 2) := by decide +kernel
theorem dX1_init_9 : decode cX1_init 9 = .ok (.putfield 11, 3) := by decide +kernel
theorem dX1_init_12 : decode cX1_init 12 = .ok (.return_, 1) := by decide +kernel
theorem dX1_isFull_0 : decode cX1_isFull 0 = .ok (.aload_n 0, 1) := by decide +kernel
theorem dX1_isFull_1 : decode cX1_isFull 1 = .ok (.getfield 15, 3) := by decide +kernel
theorem dX1_isFull_4 : decode cX1_isFull 4 = .ok (.bipush 6, 2) := by decide +kernel
theorem dX1_isFull_6 : decode cX1_isFull 6 = .ok (.if_icmp .lt 7, 3) := by decide +kernel
theorem dX1_isFull_9 : decode cX1_isFull 9 = .ok (.iconst 1, 1) := by decide +kernel
theorem dX1_isFull_10 : decode cX1_isFull 10 = .ok (.goto 4, 3) := by decide +kernel
theorem dX1_isFull_13 : decode cX1_isFull 13 = .ok (.iconst 0, 1) := by decide +kernel
theorem dX1_isFull_14 : decode cX1_isFull 14 = .ok (.ireturn, 1) := by decide +kernel
theorem dX1_add_0 : decode cX1_add 0 = .ok (.aload_n 0, 1) := by decide +kernel
theorem dX1_add_1 : decode cX1_add 1 = .ok (.invokevirtual 19, 3) := by decide +kernel
theorem dX1_add_4 : decode cX1_add 4 = .ok (.ifCond .eq 6, 3) := by decide +kernel
theorem dX1_add_7 : decode cX1_add 7 = .ok (.bipush (-4), 2) := by decide +kernel
theorem dX1_add_9 : decode cX1_add 9 = .ok (.ireturn, 1) := by decide +kernel
theorem dX1_add_10 : decode cX1_add 10 = .ok (.aload_n 0, 1) := by decide +kernel
theorem dX1_add_11 : decode cX1_add 11 = .ok (.getfield 11, 3) := by decide +kernel
theorem dX1_add_14 : decode cX1_add 14 = .ok (.aload_n 0, 1) := by decide +kernel
theorem dX1_add_15 : decode cX1_add 15 = .ok (.getfield 15, 3) := by decide +kernel
theorem dX1_add_18 : decode cX1_add 18 = .ok (.iload_n 1, 1) := by decide +kernel
theorem dX1_add_19 : decode cX1_add 19 = .ok (.iastore, 1) := by decide +kernel
theorem dX1_add_20 : decode cX1_add 20 = .ok (.aload_n 0, 1) := by decide +kernel
theorem dX1_add_21 : decode cX1_add 21 = .ok (.dup, 1) := by decide +kernel
theorem dX1_add_22 : decode cX1_add 22 = .ok (.getfield 15, 3) := by decide +kernel
theorem dX1_add_25 : decode cX1_add 25 = .ok (.iconst 1, 1) := by decide +kernel
theorem dX1_add_26 : decode cX1_add 26 = .ok (.iadd, 1) := by decide +kernel
theorem dX1_add_27 : decode cX1_add 27 = .ok (.putfield 15, 3) := by decide +kernel
theorem dX1_add_30 : decode cX1_add 30 = .ok (.aload_n 0, 1) := by decide +kernel
theorem dX1_add_31 : decode cX1_add 31 = .ok (.getfield 15, 3) := by decide +kernel
theorem dX1_add_34 : decode cX1_add 34 = .ok (.iconst 1, 1) := by decide +kernel
theorem dX1_add_35 : decode cX1_add 35 = .ok (.isub, 1) := by decide +kernel
theorem dX1_add_36 : decode cX1_add 36 = .ok (.ireturn, 1) := by decide +kernel
theorem dX1_includes_0 : decode cX1_includes 0 = .ok (.iload_n 1, 1) := by decide +kernel
theorem dX1_includes_1 : decode cX1_includes 1 = .ok (.ifCond .lt 21, 3) := by decide +kernel
theorem dX1_includes_4 : decode cX1_includes 4 = .ok (.iload_n 1, 1) := by decide +kernel
theorem dX1_includes_5 : decode cX1_includes 5 = .ok (.aload_n 0, 1) := by decide +kernel
theorem dX1_includes_6 : decode cX1_includes 6 = .ok (.getfield 15, 3) := by decide +kernel
theorem dX1_includes_9 : decode cX1_includes 9 = .ok (.if_icmp .ge 13, 3) := by decide +kernel
theorem dX1_includes_12 : decode cX1_includes 12 = .ok (.iload_n 1, 1) := by decide +kernel
theorem dX1_includes_13 : decode cX1_includes 13 = .ok (.bipush 6, 2) := by decide +kernel
theorem dX1_includes_15 : decode cX1_includes 15 = .ok (.if_icmp .ge 7, 3) := by decide +kernel
theorem dX1_includes_18 : decode cX1_includes 18 = .ok (.iconst 1, 1) := by decide +kernel
theorem dX1_includes_19 : decode cX1_includes 19 = .ok (.goto 4, 3) := by decide +kernel
theorem dX1_includes_22 : decode cX1_includes 22 = .ok (.iconst 0, 1) := by decide +kernel
theorem dX1_includes_23 : decode cX1_includes 23 = .ok (.ireturn, 1) := by decide +kernel
theorem dX1_all_0 : decode cX1_all 0 = .ok (.iconst 1, 1) := by decide +kernel
theorem dX1_all_1 : decode cX1_all 1 = .ok (.aload_n 0, 1) := by decide +kernel
theorem dX1_all_2 : decode cX1_all 2 = .ok (.getfield 15, 3) := by decide +kernel
theorem dX1_all_5 : decode cX1_all 5 = .ok (.ishl, 1) := by decide +kernel
theorem dX1_all_6 : decode cX1_all 6 = .ok (.iconst 1, 1) := by decide +kernel
theorem dX1_all_7 : decode cX1_all 7 = .ok (.isub, 1) := by decide +kernel
theorem dX1_all_8 : decode cX1_all 8 = .ok (.ireturn, 1) := by decide +kernel
theorem dX1_barsOf_0 : decode cX1_barsOf 0 = .ok (.aload_n 0, 1) := by decide +kernel
theorem dX1_barsOf_1 : decode cX1_barsOf 1 = .ok (.iload_n 1, 1) := by decide +kernel
theorem dX1_barsOf_2 : decode cX1_barsOf 2 = .ok (.invokevirtual 23, 3) := by decide +kernel
theorem dX1_barsOf_5 : decode cX1_barsOf 5 = .ok (.ifCond .eq 12, 3) := by decide +kernel
theorem dX1_barsOf_8 : decode cX1_barsOf 8 = .ok (.aload_n 0, 1) := by decide +kernel
theorem dX1_barsOf_9 : decode cX1_barsOf 9 = .ok (.getfield 11, 3) := by decide +kernel
theorem dX1_barsOf_12 : decode cX1_barsOf 12 = .ok (.iload_n 1, 1) := by decide +kernel
theorem dX1_barsOf_13 : decode cX1_barsOf 13 = .ok (.iaload, 1) := by decide +kernel
theorem dX1_barsOf_14 : decode cX1_barsOf 14 = .ok (.goto 4, 3) := by decide +kernel
theorem dX1_barsOf_17 : decode cX1_barsOf 17 = .ok (.iconst 0, 1) := by decide +kernel
theorem dX1_barsOf_18 : decode cX1_barsOf 18 = .ok (.ireturn, 1) := by decide +kernel
theorem dX1_knownTogether_0 : decode cX1_knownTogether 0 = .ok (.iconst 0, 1) := by decide +kernel
theorem dX1_knownTogether_1 : decode cX1_knownTogether 1 = .ok (.istore_n 2, 1) := by decide +kernel
theorem dX1_knownTogether_2 : decode cX1_knownTogether 2 = .ok (.iconst 0, 1) := by decide +kernel
theorem dX1_knownTogether_3 : decode cX1_knownTogether 3 = .ok (.istore_n 3, 1) := by decide +kernel
theorem dX1_knownTogether_4 : decode cX1_knownTogether 4 = .ok (.iload_n 3, 1) := by decide +kernel
theorem dX1_knownTogether_5 : decode cX1_knownTogether 5 = .ok (.aload_n 0, 1) := by decide +kernel
theorem dX1_knownTogether_6 : decode cX1_knownTogether 6 = .ok (.getfield 15, 3) := by decide +kernel
theorem dX1_knownTogether_9 : decode cX1_knownTogether 9 = .ok (.if_icmp .ge 25, 3) := by decide +kernel
theorem dX1_knownTogether_12 : decode cX1_knownTogether 12 = .ok (.iload_n 1, 1) := by decide +kernel
theorem dX1_knownTogether_13 : decode cX1_knownTogether 13 = .ok (.iload_n 3, 1) := by decide +kernel
theorem dX1_knownTogether_14 : decode cX1_knownTogether 14 = .ok (.ishr, 1) := by decide +kernel
theorem dX1_knownTogether_15 : decode cX1_knownTogether 15 = .ok (.iconst 1, 1) := by decide +kernel
theorem dX1_knownTogether_16 : decode cX1_knownTogether 16 = .ok (.iand, 1) := by decide +kernel
theorem dX1_knownTogether_17 : decode cX1_knownTogether 17 = .ok (.ifCond .eq 11, 3) := by decide +kernel
theorem dX1_knownTogether_20 : decode cX1_knownTogether 20 = .ok (.iload_n 2, 1) := by decide +kernel
theorem dX1_knownTogether_21 : decode cX1_knownTogether 21 = .ok (.aload_n 0, 1) := by decide +kernel
theorem dX1_knownTogether_22 : decode cX1_knownTogether 22 = .ok (.iload_n 3, 1) := by decide +kernel
theorem dX1_knownTogether_23 : decode cX1_knownTogether 23 = .ok (.invokevirtual 27, 3) := by decide +kernel
theorem dX1_knownTogether_26 : decode cX1_knownTogether 26 = .ok (.ior, 1) := by decide +kernel
theorem dX1_knownTogether_27 : decode cX1_knownTogether 27 = .ok (.istore_n 2, 1) := by decide +kernel
theorem dX1_knownTogether_28 : decode cX1_knownTogether 28 = .ok (.iinc 3 1, 3) := by decide +kernel
theorem dX1_knownTogether_31 : decode cX1_knownTogether 31 = .ok (.goto (-27), 3) := by decide +kernel
theorem dX1_knownTogether_34 : decode cX1_knownTogether 34 = .ok (.iload_n 2, 1) := by decide +kernel
theorem dX1_knownTogether_35 : decode cX1_knownTogether 35 = .ok (.ireturn, 1) := by decide +kernel
theorem dX1_leastSetThatKnows_0 : decode cX1_leastSetThatKnows 0 = .ok (.bipush (-9), 2) := by decide +kernel
theorem dX1_leastSetThatKnows_2 : decode cX1_leastSetThatKnows 2 = .ok (.istore_n 2, 1) := by decide +kernel
theorem dX1_leastSetThatKnows_3 : decode cX1_leastSetThatKnows 3 = .ok (.bipush 7, 2) := by decide +kernel
theorem dX1_leastSetThatKnows_5 : decode cX1_leastSetThatKnows 5 = .ok (.istore_n 3, 1) := by decide +kernel
theorem dX1_leastSetThatKnows_6 : decode cX1_leastSetThatKnows 6 = .ok (.iconst 0, 1) := by decide +kernel
theorem dX1_leastSetThatKnows_7 : decode cX1_leastSetThatKnows 7 = .ok (.istore 4, 2) := by decide +kernel
theorem dX1_leastSetThatKnows_9 : decode cX1_leastSetThatKnows 9 = .ok (.iload 4, 2) := by decide +kernel
theorem dX1_leastSetThatKnows_11 : decode cX1_leastSetThatKnows 11 = .ok (.aload_n 0, 1) := by decide +kernel
theorem dX1_leastSetThatKnows_12 : decode cX1_leastSetThatKnows 12 = .ok (.invokevirtual 31, 3) := by decide +kernel
theorem dX1_leastSetThatKnows_15 : decode cX1_leastSetThatKnows 15 = .ok (.if_icmp .gt 52, 3) := by decide +kernel
theorem dX1_leastSetThatKnows_18 : decode cX1_leastSetThatKnows 18 = .ok (.iload_n 1, 1) := by decide +kernel
theorem dX1_leastSetThatKnows_19 : decode cX1_leastSetThatKnows 19 = .ok (.aload_n 0, 1) := by decide +kernel
theorem dX1_leastSetThatKnows_20 : decode cX1_leastSetThatKnows 20 = .ok (.iload 4, 2) := by decide +kernel
theorem dX1_leastSetThatKnows_22 : decode cX1_leastSetThatKnows 22 = .ok (.invokevirtual 35, 3) := by decide +kernel
theorem dX1_leastSetThatKnows_25 : decode cX1_leastSetThatKnows 25 = .ok (.iconst (-1), 1) := by decide +kernel
theorem dX1_leastSetThatKnows_26 : decode cX1_leastSetThatKnows 26 = .ok (.ixor, 1) := by decide +kernel
theorem dX1_leastSetThatKnows_27 : decode cX1_leastSetThatKnows 27 = .ok (.iand, 1) := by decide +kernel
theorem dX1_leastSetThatKnows_28 : decode cX1_leastSetThatKnows 28 = .ok (.ifCond .ne 7, 3) := by decide +kernel
theorem dX1_leastSetThatKnows_31 : decode cX1_leastSetThatKnows 31 = .ok (.iconst 1, 1) := by decide +kernel
theorem dX1_leastSetThatKnows_32 : decode cX1_leastSetThatKnows 32 = .ok (.goto 4, 3) := by decide +kernel
theorem dX1_leastSetThatKnows_35 : decode cX1_leastSetThatKnows 35 = .ok (.iconst 0, 1) := by decide +kernel
theorem dX1_leastSetThatKnows_36 : decode cX1_leastSetThatKnows 36 = .ok (.istore 5, 2) := by decide +kernel
theorem dX1_leastSetThatKnows_38 : decode cX1_leastSetThatKnows 38 = .ok (.iload 5, 2) := by decide +kernel
theorem dX1_leastSetThatKnows_40 : decode cX1_leastSetThatKnows 40 = .ok (.ifCond .eq 21, 3) := by decide +kernel
theorem dX1_leastSetThatKnows_43 : decode cX1_leastSetThatKnows 43 = .ok (.iload 4, 2) := by decide +kernel
theorem dX1_leastSetThatKnows_45 : decode cX1_leastSetThatKnows 45 = .ok (.invokestatic 38, 3) := by decide +kernel
theorem dX1_leastSetThatKnows_48 : decode cX1_leastSetThatKnows 48 = .ok (.iload_n 3, 1) := by decide +kernel
theorem dX1_leastSetThatKnows_49 : decode cX1_leastSetThatKnows 49 = .ok (.if_icmp .ge 12, 3) := by decide +kernel
theorem dX1_leastSetThatKnows_52 : decode cX1_leastSetThatKnows 52 = .ok (.iload 4, 2) := by decide +kernel
theorem dX1_leastSetThatKnows_54 : decode cX1_leastSetThatKnows 54 = .ok (.invokestatic 38, 3) := by decide +kernel
theorem dX1_leastSetThatKnows_57 : decode cX1_leastSetThatKnows 57 = .ok (.istore_n 3, 1) := by decide +kernel
theorem dX1_leastSetThatKnows_58 : decode cX1_leastSetThatKnows 58 = .ok (.iload 4, 2) := by decide +kernel
theorem dX1_leastSetThatKnows_60 : decode cX1_leastSetThatKnows 60 = .ok (.istore_n 2, 1) := by decide +kernel
theorem dX1_leastSetThatKnows_61 : decode cX1_leastSetThatKnows 61 = .ok (.iinc 4 1, 3) := by decide +kernel
theorem dX1_leastSetThatKnows_64 : decode cX1_leastSetThatKnows 64 = .ok (.goto (-55), 3) := by decide +kernel
theorem dX1_leastSetThatKnows_67 : decode cX1_leastSetThatKnows 67 = .ok (.iload_n 2, 1) := by decide +kernel
theorem dX1_leastSetThatKnows_68 : decode cX1_leastSetThatKnows 68 = .ok (.ireturn, 1) := by decide +kernel
theorem dX1_numberThatMustKnow_0 : decode cX1_numberThatMustKnow 0 = .ok (.iconst 0, 1) := by decide +kernel
theorem dX1_numberThatMustKnow_1 : decode cX1_numberThatMustKnow 1 = .ok (.istore_n 2, 1) := by decide +kernel
theorem dX1_numberThatMustKnow_2 : decode cX1_numberThatMustKnow 2 = .ok (.iconst 0, 1) := by decide +kernel
theorem dX1_numberThatMustKnow_3 : decode cX1_numberThatMustKnow 3 = .ok (.istore_n 3, 1) := by decide +kernel
theorem dX1_numberThatMustKnow_4 : decode cX1_numberThatMustKnow 4 = .ok (.iload_n 3, 1) := by decide +kernel
theorem dX1_numberThatMustKnow_5 : decode cX1_numberThatMustKnow 5 = .ok (.bipush 24, 2) := by decide +kernel
theorem dX1_numberThatMustKnow_7 : decode cX1_numberThatMustKnow 7 = .ok (.if_icmp .ge 27, 3) := by decide +kernel
theorem dX1_numberThatMustKnow_10 : decode cX1_numberThatMustKnow 10 = .ok (.iload_n 1, 1) := by decide +kernel
theorem dX1_numberThatMustKnow_11 : decode cX1_numberThatMustKnow 11 = .ok (.iload_n 3, 1) := by decide +kernel
theorem dX1_numberThatMustKnow_12 : decode cX1_numberThatMustKnow 12 = .ok (.ishr, 1) := by decide +kernel
theorem dX1_numberThatMustKnow_13 : decode cX1_numberThatMustKnow 13 = .ok (.iconst 1, 1) := by decide +kernel
theorem dX1_numberThatMustKnow_14 : decode cX1_numberThatMustKnow 14 = .ok (.iand, 1) := by decide +kernel
theorem dX1_numberThatMustKnow_15 : decode cX1_numberThatMustKnow 15 = .ok (.ifCond .eq 13, 3) := by decide +kernel
theorem dX1_numberThatMustKnow_18 : decode cX1_numberThatMustKnow 18 = .ok (.iload_n 2, 1) := by decide +kernel
theorem dX1_numberThatMustKnow_19 : decode cX1_numberThatMustKnow 19 = .ok (.aload_n 0, 1) := by decide +kernel
theorem dX1_numberThatMustKnow_20 : decode cX1_numberThatMustKnow 20 = .ok (.iload_n 3, 1) := by decide +kernel
theorem dX1_numberThatMustKnow_21 : decode cX1_numberThatMustKnow 21 = .ok (.invokevirtual 43, 3) := by decide +kernel
theorem dX1_numberThatMustKnow_24 : decode cX1_numberThatMustKnow 24 = .ok (.invokestatic 46, 3) := by decide +kernel
theorem dX1_numberThatMustKnow_27 : decode cX1_numberThatMustKnow 27 = .ok (.istore_n 2, 1) := by decide +kernel
theorem dX1_numberThatMustKnow_28 : decode cX1_numberThatMustKnow 28 = .ok (.iinc 3 1, 3) := by decide +kernel
theorem dX1_numberThatMustKnow_31 : decode cX1_numberThatMustKnow 31 = .ok (.goto (-27), 3) := by decide +kernel
theorem dX1_numberThatMustKnow_34 : decode cX1_numberThatMustKnow 34 = .ok (.iload_n 2, 1) := by decide +kernel
theorem dX1_numberThatMustKnow_35 : decode cX1_numberThatMustKnow 35 = .ok (.aload_n 0, 1) := by decide +kernel
theorem dX1_numberThatMustKnow_36 : decode cX1_numberThatMustKnow 36 = .ok (.getfield 15, 3) := by decide +kernel
theorem dX1_numberThatMustKnow_39 : decode cX1_numberThatMustKnow 39 = .ok (.if_icmp .ge 9, 3) := by decide +kernel
theorem dX1_numberThatMustKnow_42 : decode cX1_numberThatMustKnow 42 = .ok (.iload_n 2, 1) := by decide +kernel
theorem dX1_numberThatMustKnow_43 : decode cX1_numberThatMustKnow 43 = .ok (.iconst 1, 1) := by decide +kernel
theorem dX1_numberThatMustKnow_44 : decode cX1_numberThatMustKnow 44 = .ok (.iadd, 1) := by decide +kernel
theorem dX1_numberThatMustKnow_45 : decode cX1_numberThatMustKnow 45 = .ok (.goto 5, 3) := by decide +kernel
theorem dX1_numberThatMustKnow_48 : decode cX1_numberThatMustKnow 48 = .ok (.bipush (-9), 2) := by decide +kernel
theorem dX1_numberThatMustKnow_50 : decode cX1_numberThatMustKnow 50 = .ok (.ireturn, 1) := by decide +kernel
theorem dX1_ignorantOf_0 : decode cX1_ignorantOf 0 = .ok (.iconst 0, 1) := by decide +kernel
theorem dX1_ignorantOf_1 : decode cX1_ignorantOf 1 = .ok (.istore_n 2, 1) := by decide +kernel
theorem dX1_ignorantOf_2 : decode cX1_ignorantOf 2 = .ok (.iconst 0, 1) := by decide +kernel
theorem dX1_ignorantOf_3 : decode cX1_ignorantOf 3 = .ok (.istore_n 3, 1) := by decide +kernel
theorem dX1_ignorantOf_4 : decode cX1_ignorantOf 4 = .ok (.iload_n 3, 1) := by decide +kernel
theorem dX1_ignorantOf_5 : decode cX1_ignorantOf 5 = .ok (.aload_n 0, 1) := by decide +kernel
theorem dX1_ignorantOf_6 : decode cX1_ignorantOf 6 = .ok (.getfield 15, 3) := by decide +kernel
theorem dX1_ignorantOf_9 : decode cX1_ignorantOf 9 = .ok (.if_icmp .ge 24, 3) := by decide +kernel
theorem dX1_ignorantOf_12 : decode cX1_ignorantOf 12 = .ok (.aload_n 0, 1) := by decide +kernel
theorem dX1_ignorantOf_13 : decode cX1_ignorantOf 13 = .ok (.iload_n 3, 1) := by decide +kernel
theorem dX1_ignorantOf_14 : decode cX1_ignorantOf 14 = .ok (.invokevirtual 27, 3) := by decide +kernel
theorem dX1_ignorantOf_17 : decode cX1_ignorantOf 17 = .ok (.iload_n 1, 1) := by decide +kernel
theorem dX1_ignorantOf_18 : decode cX1_ignorantOf 18 = .ok (.ishr, 1) := by decide +kernel
theorem dX1_ignorantOf_19 : decode cX1_ignorantOf 19 = .ok (.iconst 1, 1) := by decide +kernel
theorem dX1_ignorantOf_20 : decode cX1_ignorantOf 20 = .ok (.iand, 1) := by decide +kernel
theorem dX1_ignorantOf_21 : decode cX1_ignorantOf 21 = .ok (.ifCond .ne 6, 3) := by decide +kernel
theorem dX1_ignorantOf_24 : decode cX1_ignorantOf 24 = .ok (.iinc 2 1, 3) := by decide +kernel
theorem dX1_ignorantOf_27 : decode cX1_ignorantOf 27 = .ok (.iinc 3 1, 3) := by decide +kernel
theorem dX1_ignorantOf_30 : decode cX1_ignorantOf 30 = .ok (.goto (-26), 3) := by decide +kernel
theorem dX1_ignorantOf_33 : decode cX1_ignorantOf 33 = .ok (.iload_n 2, 1) := by decide +kernel
theorem dX1_ignorantOf_34 : decode cX1_ignorantOf 34 = .ok (.ireturn, 1) := by decide +kernel
theorem dX1_mostToLearn_0 : decode cX1_mostToLearn 0 = .ok (.aload_n 0, 1) := by decide +kernel
theorem dX1_mostToLearn_1 : decode cX1_mostToLearn 1 = .ok (.aload_n 0, 1) := by decide +kernel
theorem dX1_mostToLearn_2 : decode cX1_mostToLearn 2 = .ok (.invokevirtual 31, 3) := by decide +kernel
theorem dX1_mostToLearn_5 : decode cX1_mostToLearn 5 = .ok (.invokevirtual 35, 3) := by decide +kernel
theorem dX1_mostToLearn_8 : decode cX1_mostToLearn 8 = .ok (.iload_n 1, 1) := by decide +kernel
theorem dX1_mostToLearn_9 : decode cX1_mostToLearn 9 = .ok (.iand, 1) := by decide +kernel
theorem dX1_mostToLearn_10 : decode cX1_mostToLearn 10 = .ok (.istore_n 2, 1) := by decide +kernel
theorem dX1_mostToLearn_11 : decode cX1_mostToLearn 11 = .ok (.iconst 0, 1) := by decide +kernel
theorem dX1_mostToLearn_12 : decode cX1_mostToLearn 12 = .ok (.istore_n 3, 1) := by decide +kernel
theorem dX1_mostToLearn_13 : decode cX1_mostToLearn 13 = .ok (.iconst 0, 1) := by decide +kernel
theorem dX1_mostToLearn_14 : decode cX1_mostToLearn 14 = .ok (.istore 4, 2) := by decide +kernel
theorem dX1_mostToLearn_16 : decode cX1_mostToLearn 16 = .ok (.iload 4, 2) := by decide +kernel
theorem dX1_mostToLearn_18 : decode cX1_mostToLearn 18 = .ok (.aload_n 0, 1) := by decide +kernel
theorem dX1_mostToLearn_19 : decode cX1_mostToLearn 19 = .ok (.getfield 15, 3) := by decide +kernel
theorem dX1_mostToLearn_22 : decode cX1_mostToLearn 22 = .ok (.if_icmp .ge 27, 3) := by decide +kernel
theorem dX1_mostToLearn_25 : decode cX1_mostToLearn 25 = .ok (.iload_n 3, 1) := by decide +kernel
theorem dX1_mostToLearn_26 : decode cX1_mostToLearn 26 = .ok (.iload_n 2, 1) := by decide +kernel
theorem dX1_mostToLearn_27 : decode cX1_mostToLearn 27 = .ok (.aload_n 0, 1) := by decide +kernel
theorem dX1_mostToLearn_28 : decode cX1_mostToLearn 28 = .ok (.iload 4, 2) := by decide +kernel
theorem dX1_mostToLearn_30 : decode cX1_mostToLearn 30 = .ok (.invokevirtual 27, 3) := by decide +kernel
theorem dX1_mostToLearn_33 : decode cX1_mostToLearn 33 = .ok (.iconst (-1), 1) := by decide +kernel
theorem dX1_mostToLearn_34 : decode cX1_mostToLearn 34 = .ok (.ixor, 1) := by decide +kernel
theorem dX1_mostToLearn_35 : decode cX1_mostToLearn 35 = .ok (.iand, 1) := by decide +kernel
theorem dX1_mostToLearn_36 : decode cX1_mostToLearn 36 = .ok (.invokestatic 38, 3) := by decide +kernel
theorem dX1_mostToLearn_39 : decode cX1_mostToLearn 39 = .ok (.invokestatic 46, 3) := by decide +kernel
theorem dX1_mostToLearn_42 : decode cX1_mostToLearn 42 = .ok (.istore_n 3, 1) := by decide +kernel
theorem dX1_mostToLearn_43 : decode cX1_mostToLearn 43 = .ok (.iinc 4 1, 3) := by decide +kernel
theorem dX1_mostToLearn_46 : decode cX1_mostToLearn 46 = .ok (.goto (-30), 3) := by decide +kernel
theorem dX1_mostToLearn_49 : decode cX1_mostToLearn 49 = .ok (.iload_n 3, 1) := by decide +kernel
theorem dX1_mostToLearn_50 : decode cX1_mostToLearn 50 = .ok (.ireturn, 1) := by decide +kernel
theorem dX2_init_0 : decode cX2_init 0 = .ok (.aload_n 0, 1) := by decide +kernel
theorem dX2_init_1 : decode cX2_init 1 = .ok (.invokespecial 3, 3) := by decide +kernel
theorem dX2_init_4 : decode cX2_init 4 = .ok (.aload_n 0, 1) := by decide +kernel
theorem dX2_init_5 : decode cX2_init 5 = .ok (.bipush 7, 2) := by decide +kernel
theorem dX2_init_7 : decode cX2_init 7 = .ok (.newarray .int, 2) := by decide +kernel
theorem dX2_init_9 : decode cX2_init 9 = .ok (.putfield 11, 3) := by decide +kernel
theorem dX2_init_12 : decode cX2_init 12 = .ok (.aload_n 0, 1) := by decide +kernel
theorem dX2_init_13 : decode cX2_init 13 = .ok (.iconst 4, 1) := by decide +kernel
theorem dX2_init_14 : decode cX2_init 14 = .ok (.newarray .int, 2) := by decide +kernel
theorem dX2_init_16 : decode cX2_init 16 = .ok (.putfield 15, 3) := by decide +kernel
theorem dX2_init_19 : decode cX2_init 19 = .ok (.aload_n 0, 1) := by decide +kernel
theorem dX2_init_20 : decode cX2_init 20 = .ok (.bipush 24, 2) := by decide +kernel
theorem dX2_init_22 : decode cX2_init 22 = .ok (.newarray .int, 2) := by decide +kernel
theorem dX2_init_24 : decode cX2_init 24 = .ok (.putfield 18, 3) := by decide +kernel
theorem dX2_init_27 : decode cX2_init 27 = .ok (.return_, 1) := by decide +kernel
theorem dX2_clear_0 : decode cX2_clear 0 = .ok (.aload_n 0, 1) := by decide +kernel
theorem dX2_clear_1 : decode cX2_clear 1 = .ok (.iconst 0, 1) := by decide +kernel
theorem dX2_clear_2 : decode cX2_clear 2 = .ok (.putfield 21, 3) := by decide +kernel
theorem dX2_clear_5 : decode cX2_clear 5 = .ok (.aload_n 0, 1) := by decide +kernel
theorem dX2_clear_6 : decode cX2_clear 6 = .ok (.iconst 0, 1) := by decide +kernel
theorem dX2_clear_7 : decode cX2_clear 7 = .ok (.putfield 25, 3) := by decide +kernel
theorem dX2_clear_10 : decode cX2_clear 10 = .ok (.return_, 1) := by decide +kernel
theorem dX2_becomeLike_0 : decode cX2_becomeLike 0 = .ok (.aload_n 0, 1) := by decide +kernel
theorem dX2_becomeLike_1 : decode cX2_becomeLike 1 = .ok (.aload_n 1, 1) := by decide +kernel
theorem dX2_becomeLike_2 : decode cX2_becomeLike 2 = .ok (.getfield 21, 3) := by decide +kernel
theorem dX2_becomeLike_5 : decode cX2_becomeLike 5 = .ok (.putfield 21, 3) := by decide +kernel
theorem dX2_becomeLike_8 : decode cX2_becomeLike 8 = .ok (.aload_n 0, 1) := by decide +kernel
theorem dX2_becomeLike_9 : decode cX2_becomeLike 9 = .ok (.aload_n 1, 1) := by decide +kernel
theorem dX2_becomeLike_10 : decode cX2_becomeLike 10 = .ok (.getfield 25, 3) := by decide +kernel
theorem dX2_becomeLike_13 : decode cX2_becomeLike 13 = .ok (.putfield 25, 3) := by decide +kernel
theorem dX2_becomeLike_16 : decode cX2_becomeLike 16 = .ok (.aload_n 1, 1) := by decide +kernel
theorem dX2_becomeLike_17 : decode cX2_becomeLike 17 = .ok (.getfield 11, 3) := by decide +kernel
theorem dX2_becomeLike_20 : decode cX2_becomeLike 20 = .ok (.iconst 0, 1) := by decide +kernel
theorem dX2_becomeLike_21 : decode cX2_becomeLike 21 = .ok (.aload_n 0, 1) := by decide +kernel
theorem dX2_becomeLike_22 : decode cX2_becomeLike 22 = .ok (.getfield 11, 3) := by decide +kernel
theorem dX2_becomeLike_25 : decode cX2_becomeLike 25 = .ok (.iconst 0, 1) := by decide +kernel
theorem dX2_becomeLike_26 : decode cX2_becomeLike 26 = .ok (.bipush 7, 2) := by decide +kernel
theorem dX2_becomeLike_28 : decode cX2_becomeLike 28 = .ok (.invokestatic 28, 3) := by decide +kernel
theorem dX2_becomeLike_31 : decode cX2_becomeLike 31 = .ok (.aload_n 1, 1) := by decide +kernel
theorem dX2_becomeLike_32 : decode cX2_becomeLike 32 = .ok (.getfield 15, 3) := by decide +kernel
theorem dX2_becomeLike_35 : decode cX2_becomeLike 35 = .ok (.iconst 0, 1) := by decide +kernel
theorem dX2_becomeLike_36 : decode cX2_becomeLike 36 = .ok (.aload_n 0, 1) := by decide +kernel
theorem dX2_becomeLike_37 : decode cX2_becomeLike 37 = .ok (.getfield 15, 3) := by decide +kernel
theorem dX2_becomeLike_40 : decode cX2_becomeLike 40 = .ok (.iconst 0, 1) := by decide +kernel
theorem dX2_becomeLike_41 : decode cX2_becomeLike 41 = .ok (.iconst 4, 1) := by decide +kernel
theorem dX2_becomeLike_42 : decode cX2_becomeLike 42 = .ok (.invokestatic 28, 3) := by decide +kernel
theorem dX2_becomeLike_45 : decode cX2_becomeLike 45 = .ok (.aload_n 1, 1) := by decide +kernel
theorem dX2_becomeLike_46 : decode cX2_becomeLike 46 = .ok (.getfield 18, 3) := by decide +kernel
theorem dX2_becomeLike_49 : decode cX2_becomeLike 49 = .ok (.iconst 0, 1) := by decide +kernel
theorem dX2_becomeLike_50 : decode cX2_becomeLike 50 = .ok (.aload_n 0, 1) := by decide +kernel
theorem dX2_becomeLike_51 : decode cX2_becomeLike 51 = .ok (.getfield 18, 3) := by decide +kernel
theorem dX2_becomeLike_54 : decode cX2_becomeLike 54 = .ok (.iconst 0, 1) := by decide +kernel
theorem dX2_becomeLike_55 : decode cX2_becomeLike 55 = .ok (.bipush 24, 2) := by decide +kernel
theorem dX2_becomeLike_57 : decode cX2_becomeLike 57 = .ok (.invokestatic 28, 3) := by decide +kernel
theorem dX2_becomeLike_60 : decode cX2_becomeLike 60 = .ok (.return_, 1) := by decide +kernel
theorem dX2_addBoard_0 : decode cX2_addBoard 0 = .ok (.aload_n 0, 1) := by decide +kernel
theorem dX2_addBoard_1 : decode cX2_addBoard 1 = .ok (.getfield 21, 3) := by decide +kernel
theorem dX2_addBoard_4 : decode cX2_addBoard 4 = .ok (.bipush 7, 2) := by decide +kernel
theorem dX2_addBoard_6 : decode cX2_addBoard 6 = .ok (.if_icmp .ge 23, 3) := by decide +kernel
theorem dX2_addBoard_9 : decode cX2_addBoard 9 = .ok (.aload_n 0, 1) := by decide +kernel
theorem dX2_addBoard_10 : decode cX2_addBoard 10 = .ok (.getfield 11, 3) := by decide +kernel
theorem dX2_addBoard_13 : decode cX2_addBoard 13 = .ok (.aload_n 0, 1) := by decide +kernel
theorem dX2_addBoard_14 : decode cX2_addBoard 14 = .ok (.getfield 21, 3) := by decide +kernel
theorem dX2_addBoard_17 : decode cX2_addBoard 17 = .ok (.iload_n 1, 1) := by decide +kernel
theorem dX2_addBoard_18 : decode cX2_addBoard 18 = .ok (.iastore, 1) := by decide +kernel
theorem dX2_addBoard_19 : decode cX2_addBoard 19 = .ok (.aload_n 0, 1) := by decide +kernel
theorem dX2_addBoard_20 : decode cX2_addBoard 20 = .ok (.dup, 1) := by decide +kernel
theorem dX2_addBoard_21 : decode cX2_addBoard 21 = .ok (.getfield 21, 3) := by decide +kernel
theorem dX2_addBoard_24 : decode cX2_addBoard 24 = .ok (.iconst 1, 1) := by decide +kernel
theorem dX2_addBoard_25 : decode cX2_addBoard 25 = .ok (.iadd, 1) := by decide +kernel
theorem dX2_addBoard_26 : decode cX2_addBoard 26 = .ok (.putfield 21, 3) := by decide +kernel
theorem dX2_addBoard_29 : decode cX2_addBoard 29 = .ok (.return_, 1) := by decide +kernel
theorem dX2_addDoor_0 : decode cX2_addDoor 0 = .ok (.aload_n 0, 1) := by decide +kernel
theorem dX2_addDoor_1 : decode cX2_addDoor 1 = .ok (.getfield 25, 3) := by decide +kernel
theorem dX2_addDoor_4 : decode cX2_addDoor 4 = .ok (.iconst 4, 1) := by decide +kernel
theorem dX2_addDoor_5 : decode cX2_addDoor 5 = .ok (.if_icmp .lt 5, 3) := by decide +kernel
theorem dX2_addDoor_8 : decode cX2_addDoor 8 = .ok (.iconst 0, 1) := by decide +kernel
theorem dX2_addDoor_9 : decode cX2_addDoor 9 = .ok (.ireturn, 1) := by decide +kernel
theorem dX2_addDoor_10 : decode cX2_addDoor 10 = .ok (.aload_n 0, 1) := by decide +kernel
theorem dX2_addDoor_11 : decode cX2_addDoor 11 = .ok (.getfield 15, 3) := by decide +kernel
theorem dX2_addDoor_14 : decode cX2_addDoor 14 = .ok (.aload_n 0, 1) := by decide +kernel
theorem dX2_addDoor_15 : decode cX2_addDoor 15 = .ok (.getfield 25, 3) := by decide +kernel
theorem dX2_addDoor_18 : decode cX2_addDoor 18 = .ok (.iconst 0, 1) := by decide +kernel
theorem dX2_addDoor_19 : decode cX2_addDoor 19 = .ok (.iastore, 1) := by decide +kernel
theorem dX2_addDoor_20 : decode cX2_addDoor 20 = .ok (.aload_n 0, 1) := by decide +kernel
theorem dX2_addDoor_21 : decode cX2_addDoor 21 = .ok (.dup, 1) := by decide +kernel
theorem dX2_addDoor_22 : decode cX2_addDoor 22 = .ok (.getfield 25, 3) := by decide +kernel
theorem dX2_addDoor_25 : decode cX2_addDoor 25 = .ok (.iconst 1, 1) := by decide +kernel
theorem dX2_addDoor_26 : decode cX2_addDoor 26 = .ok (.iadd, 1) := by decide +kernel
theorem dX2_addDoor_27 : decode cX2_addDoor 27 = .ok (.putfield 25, 3) := by decide +kernel
theorem dX2_addDoor_30 : decode cX2_addDoor 30 = .ok (.aload_n 0, 1) := by decide +kernel
theorem dX2_addDoor_31 : decode cX2_addDoor 31 = .ok (.invokevirtual 34, 3) := by decide +kernel
theorem dX2_addDoor_34 : decode cX2_addDoor 34 = .ok (.ireturn, 1) := by decide +kernel
theorem dX2_addBeat_0 : decode cX2_addBeat 0 = .ok (.aload_n 0, 1) := by decide +kernel
theorem dX2_addBeat_1 : decode cX2_addBeat 1 = .ok (.getfield 25, 3) := by decide +kernel
theorem dX2_addBeat_4 : decode cX2_addBeat 4 = .ok (.iconst 1, 1) := by decide +kernel
theorem dX2_addBeat_5 : decode cX2_addBeat 5 = .ok (.isub, 1) := by decide +kernel
theorem dX2_addBeat_6 : decode cX2_addBeat 6 = .ok (.istore_n 1, 1) := by decide +kernel
theorem dX2_addBeat_7 : decode cX2_addBeat 7 = .ok (.aload_n 0, 1) := by decide +kernel
theorem dX2_addBeat_8 : decode cX2_addBeat 8 = .ok (.iload_n 1, 1) := by decide +kernel
theorem dX2_addBeat_9 : decode cX2_addBeat 9 = .ok (.invokevirtual 38, 3) := by decide +kernel
theorem dX2_addBeat_12 : decode cX2_addBeat 12 = .ok (.ifCond .eq 14, 3) := by decide +kernel
theorem dX2_addBeat_15 : decode cX2_addBeat 15 = .ok (.aload_n 0, 1) := by decide +kernel
theorem dX2_addBeat_16 : decode cX2_addBeat 16 = .ok (.getfield 15, 3) := by decide +kernel
theorem dX2_addBeat_19 : decode cX2_addBeat 19 = .ok (.iload_n 1, 1) := by decide +kernel
theorem dX2_addBeat_20 : decode cX2_addBeat 20 = .ok (.iaload, 1) := by decide +kernel
theorem dX2_addBeat_21 : decode cX2_addBeat 21 = .ok (.bipush 6, 2) := by decide +kernel
theorem dX2_addBeat_23 : decode cX2_addBeat 23 = .ok (.if_icmp .lt 5, 3) := by decide +kernel
theorem dX2_addBeat_26 : decode cX2_addBeat 26 = .ok (.iconst 0, 1) := by decide +kernel
theorem dX2_addBeat_27 : decode cX2_addBeat 27 = .ok (.ireturn, 1) := by decide +kernel
theorem dX2_addBeat_28 : decode cX2_addBeat 28 = .ok (.aload_n 0, 1) := by decide +kernel
theorem dX2_addBeat_29 : decode cX2_addBeat 29 = .ok (.getfield 18, 3) := by decide +kernel
theorem dX2_addBeat_32 : decode cX2_addBeat 32 = .ok (.iload_n 1, 1) := by decide +kernel
theorem dX2_addBeat_33 : decode cX2_addBeat 33 = .ok (.bipush 6, 2) := by decide +kernel
theorem dX2_addBeat_35 : decode cX2_addBeat 35 = .ok (.imul, 1) := by decide +kernel
theorem dX2_addBeat_36 : decode cX2_addBeat 36 = .ok (.aload_n 0, 1) := by decide +kernel
theorem dX2_addBeat_37 : decode cX2_addBeat 37 = .ok (.getfield 15, 3) := by decide +kernel
theorem dX2_addBeat_40 : decode cX2_addBeat 40 = .ok (.iload_n 1, 1) := by decide +kernel
theorem dX2_addBeat_41 : decode cX2_addBeat 41 = .ok (.iaload, 1) := by decide +kernel
theorem dX2_addBeat_42 : decode cX2_addBeat 42 = .ok (.iadd, 1) := by decide +kernel
theorem dX2_addBeat_43 : decode cX2_addBeat 43 = .ok (.iconst 0, 1) := by decide +kernel
theorem dX2_addBeat_44 : decode cX2_addBeat 44 = .ok (.iastore, 1) := by decide +kernel
theorem dX2_addBeat_45 : decode cX2_addBeat 45 = .ok (.aload_n 0, 1) := by decide +kernel
theorem dX2_addBeat_46 : decode cX2_addBeat 46 = .ok (.getfield 15, 3) := by decide +kernel
theorem dX2_addBeat_49 : decode cX2_addBeat 49 = .ok (.iload_n 1, 1) := by decide +kernel
theorem dX2_addBeat_50 : decode cX2_addBeat 50 = .ok (.dup2, 1) := by decide +kernel
theorem dX2_addBeat_51 : decode cX2_addBeat 51 = .ok (.iaload, 1) := by decide +kernel
theorem dX2_addBeat_52 : decode cX2_addBeat 52 = .ok (.iconst 1, 1) := by decide +kernel
theorem dX2_addBeat_53 : decode cX2_addBeat 53 = .ok (.iadd, 1) := by decide +kernel
theorem dX2_addBeat_54 : decode cX2_addBeat 54 = .ok (.iastore, 1) := by decide +kernel
theorem dX2_addBeat_55 : decode cX2_addBeat 55 = .ok (.iconst 1, 1) := by decide +kernel
theorem dX2_addBeat_56 : decode cX2_addBeat 56 = .ok (.ireturn, 1) := by decide +kernel
theorem dX2_addRising_0 : decode cX2_addRising 0 = .ok (.aload_n 0, 1) := by decide +kernel
theorem dX2_addRising_1 : decode cX2_addRising 1 = .ok (.getfield 25, 3) := by decide +kernel
theorem dX2_addRising_4 : decode cX2_addRising 4 = .ok (.iconst 1, 1) := by decide +kernel
theorem dX2_addRising_5 : decode cX2_addRising 5 = .ok (.isub, 1) := by decide +kernel
theorem dX2_addRising_6 : decode cX2_addRising 6 = .ok (.istore_n 2, 1) := by decide +kernel
theorem dX2_addRising_7 : decode cX2_addRising 7 = .ok (.aload_n 0, 1) := by decide +kernel
theorem dX2_addRising_8 : decode cX2_addRising 8 = .ok (.iload_n 2, 1) := by decide +kernel
theorem dX2_addRising_9 : decode cX2_addRising 9 = .ok (.invokevirtual 38, 3) := by decide +kernel
theorem dX2_addRising_12 : decode cX2_addRising 12 = .ok (.ifCond .eq 11, 3) := by decide +kernel
theorem dX2_addRising_15 : decode cX2_addRising 15 = .ok (.aload_n 0, 1) := by decide +kernel
theorem dX2_addRising_16 : decode cX2_addRising 16 = .ok (.iload_n 1, 1) := by decide +kernel
theorem dX2_addRising_17 : decode cX2_addRising 17 = .ok (.invokevirtual 42, 3) := by decide +kernel
theorem dX2_addRising_20 : decode cX2_addRising 20 = .ok (.ifCond .ne 5, 3) := by decide +kernel
theorem dX2_addRising_23 : decode cX2_addRising 23 = .ok (.iconst 0, 1) := by decide +kernel
theorem dX2_addRising_24 : decode cX2_addRising 24 = .ok (.ireturn, 1) := by decide +kernel
theorem dX2_addRising_25 : decode cX2_addRising 25 = .ok (.iload_n 2, 1) := by decide +kernel
theorem dX2_addRising_26 : decode cX2_addRising 26 = .ok (.bipush 6, 2) := by decide +kernel
theorem dX2_addRising_28 : decode cX2_addRising 28 = .ok (.imul, 1) := by decide +kernel
theorem dX2_addRising_29 : decode cX2_addRising 29 = .ok (.aload_n 0, 1) := by decide +kernel
theorem dX2_addRising_30 : decode cX2_addRising 30 = .ok (.getfield 15, 3) := by decide +kernel
theorem dX2_addRising_33 : decode cX2_addRising 33 = .ok (.iload_n 2, 1) := by decide +kernel
theorem dX2_addRising_34 : decode cX2_addRising 34 = .ok (.iaload, 1) := by decide +kernel
theorem dX2_addRising_35 : decode cX2_addRising 35 = .ok (.iadd, 1) := by decide +kernel
theorem dX2_addRising_36 : decode cX2_addRising 36 = .ok (.iconst 1, 1) := by decide +kernel
theorem dX2_addRising_37 : decode cX2_addRising 37 = .ok (.isub, 1) := by decide +kernel
theorem dX2_addRising_38 : decode cX2_addRising 38 = .ok (.istore_n 3, 1) := by decide +kernel
theorem dX2_addRising_39 : decode cX2_addRising 39 = .ok (.iload_n 3, 1) := by decide +kernel
theorem dX2_addRising_40 : decode cX2_addRising 40 = .ok (.ifCond .lt 12, 3) := by decide +kernel
theorem dX2_addRising_43 : decode cX2_addRising 43 = .ok (.iload_n 3, 1) := by decide +kernel
theorem dX2_addRising_44 : decode cX2_addRising 44 = .ok (.aload_n 0, 1) := by decide +kernel
theorem dX2_addRising_45 : decode cX2_addRising 45 = .ok (.getfield 18, 3) := by decide +kernel
theorem dX2_addRising_48 : decode cX2_addRising 48 = .ok (.arraylength, 1) := by decide +kernel
theorem dX2_addRising_49 : decode cX2_addRising 49 = .ok (.if_icmp .lt 5, 3) := by decide +kernel
theorem dX2_addRising_52 : decode cX2_addRising 52 = .ok (.iconst 0, 1) := by decide +kernel
theorem dX2_addRising_53 : decode cX2_addRising 53 = .ok (.ireturn, 1) := by decide +kernel
theorem dX2_addRising_54 : decode cX2_addRising 54 = .ok (.aload_n 0, 1) := by decide +kernel
theorem dX2_addRising_55 : decode cX2_addRising 55 = .ok (.getfield 18, 3) := by decide +kernel
theorem dX2_addRising_58 : decode cX2_addRising 58 = .ok (.iload_n 3, 1) := by decide +kernel
theorem dX2_addRising_59 : decode cX2_addRising 59 = .ok (.iaload, 1) := by decide +kernel
theorem dX2_addRising_60 : decode cX2_addRising 60 = .ok (.iload_n 1, 1) := by decide +kernel
theorem dX2_addRising_61 : decode cX2_addRising 61 = .ok (.ishr, 1) := by decide +kernel
theorem dX2_addRising_62 : decode cX2_addRising 62 = .ok (.ifCond .ne 16, 3) := by decide +kernel
theorem dX2_addRising_65 : decode cX2_addRising 65 = .ok (.aload_n 0, 1) := by decide +kernel
theorem dX2_addRising_66 : decode cX2_addRising 66 = .ok (.getfield 18, 3) := by decide +kernel
theorem dX2_addRising_69 : decode cX2_addRising 69 = .ok (.iload_n 3, 1) := by decide +kernel
theorem dX2_addRising_70 : decode cX2_addRising 70 = .ok (.iaload, 1) := by decide +kernel
theorem dX2_addRising_71 : decode cX2_addRising 71 = .ok (.invokestatic 45, 3) := by decide +kernel
theorem dX2_addRising_74 : decode cX2_addRising 74 = .ok (.iconst 4, 1) := by decide +kernel
theorem dX2_addRising_75 : decode cX2_addRising 75 = .ok (.if_icmp .lt 5, 3) := by decide +kernel
theorem dX2_addRising_78 : decode cX2_addRising 78 = .ok (.iconst 0, 1) := by decide +kernel
theorem dX2_addRising_79 : decode cX2_addRising 79 = .ok (.ireturn, 1) := by decide +kernel
theorem dX2_addRising_80 : decode cX2_addRising 80 = .ok (.aload_n 0, 1) := by decide +kernel
theorem dX2_addRising_81 : decode cX2_addRising 81 = .ok (.getfield 18, 3) := by decide +kernel
theorem dX2_addRising_84 : decode cX2_addRising 84 = .ok (.iload_n 3, 1) := by decide +kernel
theorem dX2_addRising_85 : decode cX2_addRising 85 = .ok (.dup2, 1) := by decide +kernel
theorem dX2_addRising_86 : decode cX2_addRising 86 = .ok (.iaload, 1) := by decide +kernel
theorem dX2_addRising_87 : decode cX2_addRising 87 = .ok (.iconst 1, 1) := by decide +kernel
theorem dX2_addRising_88 : decode cX2_addRising 88 = .ok (.iload_n 1, 1) := by decide +kernel
theorem dX2_addRising_89 : decode cX2_addRising 89 = .ok (.ishl, 1) := by decide +kernel
theorem dX2_addRising_90 : decode cX2_addRising 90 = .ok (.ior, 1) := by decide +kernel
theorem dX2_addRising_91 : decode cX2_addRising 91 = .ok (.iastore, 1) := by decide +kernel
theorem dX2_addRising_92 : decode cX2_addRising 92 = .ok (.iconst 1, 1) := by decide +kernel
theorem dX2_addRising_93 : decode cX2_addRising 93 = .ok (.ireturn, 1) := by decide +kernel
theorem dX2_stands_0 : decode cX2_stands 0 = .ok (.aload_n 0, 1) := by decide +kernel
theorem dX2_stands_1 : decode cX2_stands 1 = .ok (.getfield 25, 3) := by decide +kernel
theorem dX2_stands_4 : decode cX2_stands 4 = .ok (.ifCond .le 7, 3) := by decide +kernel
theorem dX2_stands_7 : decode cX2_stands 7 = .ok (.iconst 1, 1) := by decide +kernel
theorem dX2_stands_8 : decode cX2_stands 8 = .ok (.goto 4, 3) := by decide +kernel
theorem dX2_stands_11 : decode cX2_stands 11 = .ok (.iconst 0, 1) := by decide +kernel
theorem dX2_stands_12 : decode cX2_stands 12 = .ok (.ireturn, 1) := by decide +kernel
theorem dX2_hasBoard_0 : decode cX2_hasBoard 0 = .ok (.iload_n 1, 1) := by decide +kernel
theorem dX2_hasBoard_1 : decode cX2_hasBoard 1 = .ok (.ifCond .lt 21, 3) := by decide +kernel
theorem dX2_hasBoard_4 : decode cX2_hasBoard 4 = .ok (.iload_n 1, 1) := by decide +kernel
theorem dX2_hasBoard_5 : decode cX2_hasBoard 5 = .ok (.aload_n 0, 1) := by decide +kernel
theorem dX2_hasBoard_6 : decode cX2_hasBoard 6 = .ok (.getfield 21, 3) := by decide +kernel
theorem dX2_hasBoard_9 : decode cX2_hasBoard 9 = .ok (.if_icmp .ge 13, 3) := by decide +kernel
theorem dX2_hasBoard_12 : decode cX2_hasBoard 12 = .ok (.iload_n 1, 1) := by decide +kernel
theorem dX2_hasBoard_13 : decode cX2_hasBoard 13 = .ok (.bipush 7, 2) := by decide +kernel
theorem dX2_hasBoard_15 : decode cX2_hasBoard 15 = .ok (.if_icmp .ge 7, 3) := by decide +kernel
theorem dX2_hasBoard_18 : decode cX2_hasBoard 18 = .ok (.iconst 1, 1) := by decide +kernel
theorem dX2_hasBoard_19 : decode cX2_hasBoard 19 = .ok (.goto 4, 3) := by decide +kernel
theorem dX2_hasBoard_22 : decode cX2_hasBoard 22 = .ok (.iconst 0, 1) := by decide +kernel
theorem dX2_hasBoard_23 : decode cX2_hasBoard 23 = .ok (.ireturn, 1) := by decide +kernel
theorem dX2_hasDoor_0 : decode cX2_hasDoor 0 = .ok (.iload_n 1, 1) := by decide +kernel
theorem dX2_hasDoor_1 : decode cX2_hasDoor 1 = .ok (.ifCond .lt 20, 3) := by decide +kernel
theorem dX2_hasDoor_4 : decode cX2_hasDoor 4 = .ok (.iload_n 1, 1) := by decide +kernel
theorem dX2_hasDoor_5 : decode cX2_hasDoor 5 = .ok (.aload_n 0, 1) := by decide +kernel
theorem dX2_hasDoor_6 : decode cX2_hasDoor 6 = .ok (.getfield 25, 3) := by decide +kernel
theorem dX2_hasDoor_9 : decode cX2_hasDoor 9 = .ok (.if_icmp .ge 12, 3) := by decide +kernel
theorem dX2_hasDoor_12 : decode cX2_hasDoor 12 = .ok (.iload_n 1, 1) := by decide +kernel
theorem dX2_hasDoor_13 : decode cX2_hasDoor 13 = .ok (.iconst 4, 1) := by decide +kernel
theorem dX2_hasDoor_14 : decode cX2_hasDoor 14 = .ok (.if_icmp .ge 7, 3) := by decide +kernel
theorem dX2_hasDoor_17 : decode cX2_hasDoor 17 = .ok (.iconst 1, 1) := by decide +kernel
theorem dX2_hasDoor_18 : decode cX2_hasDoor 18 = .ok (.goto 4, 3) := by decide +kernel
theorem dX2_hasDoor_21 : decode cX2_hasDoor 21 = .ok (.iconst 0, 1) := by decide +kernel
theorem dX2_hasDoor_22 : decode cX2_hasDoor 22 = .ok (.ireturn, 1) := by decide +kernel
theorem dX2_hasBeat_0 : decode cX2_hasBeat 0 = .ok (.aload_n 0, 1) := by decide +kernel
theorem dX2_hasBeat_1 : decode cX2_hasBeat 1 = .ok (.iload_n 1, 1) := by decide +kernel
theorem dX2_hasBeat_2 : decode cX2_hasBeat 2 = .ok (.invokevirtual 38, 3) := by decide +kernel
theorem dX2_hasBeat_5 : decode cX2_hasBeat 5 = .ok (.ifCond .eq 27, 3) := by decide +kernel
theorem dX2_hasBeat_8 : decode cX2_hasBeat 8 = .ok (.iload_n 2, 1) := by decide +kernel
theorem dX2_hasBeat_9 : decode cX2_hasBeat 9 = .ok (.ifCond .lt 23, 3) := by decide +kernel
theorem dX2_hasBeat_12 : decode cX2_hasBeat 12 = .ok (.iload_n 2, 1) := by decide +kernel
theorem dX2_hasBeat_13 : decode cX2_hasBeat 13 = .ok (.aload_n 0, 1) := by decide +kernel
theorem dX2_hasBeat_14 : decode cX2_hasBeat 14 = .ok (.getfield 15, 3) := by decide +kernel
theorem dX2_hasBeat_17 : decode cX2_hasBeat 17 = .ok (.iload_n 1, 1) := by decide +kernel
theorem dX2_hasBeat_18 : decode cX2_hasBeat 18 = .ok (.iaload, 1) := by decide +kernel
theorem dX2_hasBeat_19 : decode cX2_hasBeat 19 = .ok (.if_icmp .ge 13, 3) := by decide +kernel
theorem dX2_hasBeat_22 : decode cX2_hasBeat 22 = .ok (.iload_n 2, 1) := by decide +kernel
theorem dX2_hasBeat_23 : decode cX2_hasBeat 23 = .ok (.bipush 6, 2) := by decide +kernel
theorem dX2_hasBeat_25 : decode cX2_hasBeat 25 = .ok (.if_icmp .ge 7, 3) := by decide +kernel
theorem dX2_hasBeat_28 : decode cX2_hasBeat 28 = .ok (.iconst 1, 1) := by decide +kernel
theorem dX2_hasBeat_29 : decode cX2_hasBeat 29 = .ok (.goto 4, 3) := by decide +kernel
theorem dX2_hasBeat_32 : decode cX2_hasBeat 32 = .ok (.iconst 0, 1) := by decide +kernel
theorem dX2_hasBeat_33 : decode cX2_hasBeat 33 = .ok (.ireturn, 1) := by decide +kernel
theorem dX2_allBoards_0 : decode cX2_allBoards 0 = .ok (.iconst 1, 1) := by decide +kernel
theorem dX2_allBoards_1 : decode cX2_allBoards 1 = .ok (.aload_n 0, 1) := by decide +kernel
theorem dX2_allBoards_2 : decode cX2_allBoards 2 = .ok (.getfield 21, 3) := by decide +kernel
theorem dX2_allBoards_5 : decode cX2_allBoards 5 = .ok (.ishl, 1) := by decide +kernel
theorem dX2_allBoards_6 : decode cX2_allBoards 6 = .ok (.iconst 1, 1) := by decide +kernel
theorem dX2_allBoards_7 : decode cX2_allBoards 7 = .ok (.isub, 1) := by decide +kernel
theorem dX2_allBoards_8 : decode cX2_allBoards 8 = .ok (.ireturn, 1) := by decide +kernel
theorem dX2_beatsOf_0 : decode cX2_beatsOf 0 = .ok (.aload_n 0, 1) := by decide +kernel
theorem dX2_beatsOf_1 : decode cX2_beatsOf 1 = .ok (.iload_n 1, 1) := by decide +kernel
theorem dX2_beatsOf_2 : decode cX2_beatsOf 2 = .ok (.invokevirtual 38, 3) := by decide +kernel
theorem dX2_beatsOf_5 : decode cX2_beatsOf 5 = .ok (.ifCond .eq 12, 3) := by decide +kernel
theorem dX2_beatsOf_8 : decode cX2_beatsOf 8 = .ok (.aload_n 0, 1) := by decide +kernel
theorem dX2_beatsOf_9 : decode cX2_beatsOf 9 = .ok (.getfield 15, 3) := by decide +kernel
theorem dX2_beatsOf_12 : decode cX2_beatsOf 12 = .ok (.iload_n 1, 1) := by decide +kernel
theorem dX2_beatsOf_13 : decode cX2_beatsOf 13 = .ok (.iaload, 1) := by decide +kernel
theorem dX2_beatsOf_14 : decode cX2_beatsOf 14 = .ok (.goto 4, 3) := by decide +kernel
theorem dX2_beatsOf_17 : decode cX2_beatsOf 17 = .ok (.iconst 0, 1) := by decide +kernel
theorem dX2_beatsOf_18 : decode cX2_beatsOf 18 = .ok (.ireturn, 1) := by decide +kernel
theorem dX2_figureAt_0 : decode cX2_figureAt 0 = .ok (.aload_n 0, 1) := by decide +kernel
theorem dX2_figureAt_1 : decode cX2_figureAt 1 = .ok (.iload_n 1, 1) := by decide +kernel
theorem dX2_figureAt_2 : decode cX2_figureAt 2 = .ok (.iload_n 2, 1) := by decide +kernel
theorem dX2_figureAt_3 : decode cX2_figureAt 3 = .ok (.invokevirtual 51, 3) := by decide +kernel
theorem dX2_figureAt_6 : decode cX2_figureAt 6 = .ok (.ifCond .eq 17, 3) := by decide +kernel
theorem dX2_figureAt_9 : decode cX2_figureAt 9 = .ok (.aload_n 0, 1) := by decide +kernel
theorem dX2_figureAt_10 : decode cX2_figureAt 10 = .ok (.getfield 18, 3) := by decide +kernel
theorem dX2_figureAt_13 : decode cX2_figureAt 13 = .ok (.iload_n 1, 1) := by decide +kernel
theorem dX2_figureAt_14 : decode cX2_figureAt 14 = .ok (.bipush 6, 2) := by decide +kernel
theorem dX2_figureAt_16 : decode cX2_figureAt 16 = .ok (.imul, 1) := by decide +kernel
theorem dX2_figureAt_17 : decode cX2_figureAt 17 = .ok (.iload_n 2, 1) := by decide +kernel
theorem dX2_figureAt_18 : decode cX2_figureAt 18 = .ok (.iadd, 1) := by decide +kernel
theorem dX2_figureAt_19 : decode cX2_figureAt 19 = .ok (.iaload, 1) := by decide +kernel
theorem dX2_figureAt_20 : decode cX2_figureAt 20 = .ok (.goto 4, 3) := by decide +kernel
theorem dX2_figureAt_23 : decode cX2_figureAt 23 = .ok (.iconst 0, 1) := by decide +kernel
theorem dX2_figureAt_24 : decode cX2_figureAt 24 = .ok (.ireturn, 1) := by decide +kernel
theorem dX2_exchange_0 : decode cX2_exchange 0 = .ok (.aload_n 0, 1) := by decide +kernel
theorem dX2_exchange_1 : decode cX2_exchange 1 = .ok (.iload_n 1, 1) := by decide +kernel
theorem dX2_exchange_2 : decode cX2_exchange 2 = .ok (.iload_n 2, 1) := by decide +kernel
theorem dX2_exchange_3 : decode cX2_exchange 3 = .ok (.invokevirtual 55, 3) := by decide +kernel
theorem dX2_exchange_6 : decode cX2_exchange 6 = .ok (.istore 4, 2) := by decide +kernel
theorem dX2_exchange_8 : decode cX2_exchange 8 = .ok (.aload_n 0, 1) := by decide +kernel
theorem dX2_exchange_9 : decode cX2_exchange 9 = .ok (.iload_n 1, 1) := by decide +kernel
theorem dX2_exchange_10 : decode cX2_exchange 10 = .ok (.iload_n 2, 1) := by decide +kernel
theorem dX2_exchange_11 : decode cX2_exchange 11 = .ok (.invokevirtual 51, 3) := by decide +kernel
theorem dX2_exchange_14 : decode cX2_exchange 14 = .ok (.ifCond .eq 15, 3) := by decide +kernel
theorem dX2_exchange_17 : decode cX2_exchange 17 = .ok (.aload_n 0, 1) := by decide +kernel
theorem dX2_exchange_18 : decode cX2_exchange 18 = .ok (.getfield 18, 3) := by decide +kernel
theorem dX2_exchange_21 : decode cX2_exchange 21 = .ok (.iload_n 1, 1) := by decide +kernel
theorem dX2_exchange_22 : decode cX2_exchange 22 = .ok (.bipush 6, 2) := by decide +kernel
theorem dX2_exchange_24 : decode cX2_exchange 24 = .ok (.imul, 1) := by decide +kernel
theorem dX2_exchange_25 : decode cX2_exchange 25 = .ok (.iload_n 2, 1) := by decide +kernel
theorem dX2_exchange_26 : decode cX2_exchange 26 = .ok (.iadd, 1) := by decide +kernel
theorem dX2_exchange_27 : decode cX2_exchange 27 = .ok (.iload_n 3, 1) := by decide +kernel
theorem dX2_exchange_28 : decode cX2_exchange 28 = .ok (.iastore, 1) := by decide +kernel
theorem dX2_exchange_29 : decode cX2_exchange 29 = .ok (.iload 4, 2) := by decide +kernel
theorem dX2_exchange_31 : decode cX2_exchange 31 = .ok (.ireturn, 1) := by decide +kernel
theorem dX2_barsOfDoor_0 : decode cX2_barsOfDoor 0 = .ok (.iconst 1, 1) := by decide +kernel
theorem dX2_barsOfDoor_1 : decode cX2_barsOfDoor 1 = .ok (.aload_n 0, 1) := by decide +kernel
theorem dX2_barsOfDoor_2 : decode cX2_barsOfDoor 2 = .ok (.iload_n 1, 1) := by decide +kernel
theorem dX2_barsOfDoor_3 : decode cX2_barsOfDoor 3 = .ok (.invokevirtual 59, 3) := by decide +kernel
theorem dX2_barsOfDoor_6 : decode cX2_barsOfDoor 6 = .ok (.ishl, 1) := by decide +kernel
theorem dX2_barsOfDoor_7 : decode cX2_barsOfDoor 7 = .ok (.iconst 1, 1) := by decide +kernel
theorem dX2_barsOfDoor_8 : decode cX2_barsOfDoor 8 = .ok (.isub, 1) := by decide +kernel
theorem dX2_barsOfDoor_9 : decode cX2_barsOfDoor 9 = .ok (.iload_n 1, 1) := by decide +kernel
theorem dX2_barsOfDoor_10 : decode cX2_barsOfDoor 10 = .ok (.bipush 6, 2) := by decide +kernel
theorem dX2_barsOfDoor_12 : decode cX2_barsOfDoor 12 = .ok (.imul, 1) := by decide +kernel
theorem dX2_barsOfDoor_13 : decode cX2_barsOfDoor 13 = .ok (.ishl, 1) := by decide +kernel
theorem dX2_barsOfDoor_14 : decode cX2_barsOfDoor 14 = .ok (.ireturn, 1) := by decide +kernel
theorem dX2_allBars_0 : decode cX2_allBars 0 = .ok (.iconst 0, 1) := by decide +kernel
theorem dX2_allBars_1 : decode cX2_allBars 1 = .ok (.istore_n 1, 1) := by decide +kernel
theorem dX2_allBars_2 : decode cX2_allBars 2 = .ok (.iconst 0, 1) := by decide +kernel
theorem dX2_allBars_3 : decode cX2_allBars 3 = .ok (.istore_n 2, 1) := by decide +kernel
theorem dX2_allBars_4 : decode cX2_allBars 4 = .ok (.iload_n 2, 1) := by decide +kernel
theorem dX2_allBars_5 : decode cX2_allBars 5 = .ok (.aload_n 0, 1) := by decide +kernel
theorem dX2_allBars_6 : decode cX2_allBars 6 = .ok (.getfield 25, 3) := by decide +kernel
theorem dX2_allBars_9 : decode cX2_allBars 9 = .ok (.if_icmp .ge 17, 3) := by decide +kernel
theorem dX2_allBars_12 : decode cX2_allBars 12 = .ok (.iload_n 1, 1) := by decide +kernel
theorem dX2_allBars_13 : decode cX2_allBars 13 = .ok (.aload_n 0, 1) := by decide +kernel
theorem dX2_allBars_14 : decode cX2_allBars 14 = .ok (.iload_n 2, 1) := by decide +kernel
theorem dX2_allBars_15 : decode cX2_allBars 15 = .ok (.invokevirtual 62, 3) := by decide +kernel
theorem dX2_allBars_18 : decode cX2_allBars 18 = .ok (.ior, 1) := by decide +kernel
theorem dX2_allBars_19 : decode cX2_allBars 19 = .ok (.istore_n 1, 1) := by decide +kernel
theorem dX2_allBars_20 : decode cX2_allBars 20 = .ok (.iinc 2 1, 3) := by decide +kernel
theorem dX2_allBars_23 : decode cX2_allBars 23 = .ok (.goto (-19), 3) := by decide +kernel
theorem dX2_allBars_26 : decode cX2_allBars 26 = .ok (.iload_n 1, 1) := by decide +kernel
theorem dX2_allBars_27 : decode cX2_allBars 27 = .ok (.ireturn, 1) := by decide +kernel
theorem dX2_beatsOfBars_0 : decode cX2_beatsOfBars 0 = .ok (.iload_n 2, 1) := by decide +kernel
theorem dX2_beatsOfBars_1 : decode cX2_beatsOfBars 1 = .ok (.aload_n 0, 1) := by decide +kernel
theorem dX2_beatsOfBars_2 : decode cX2_beatsOfBars 2 = .ok (.iload_n 1, 1) := by decide +kernel
theorem dX2_beatsOfBars_3 : decode cX2_beatsOfBars 3 = .ok (.invokevirtual 62, 3) := by decide +kernel
theorem dX2_beatsOfBars_6 : decode cX2_beatsOfBars 6 = .ok (.iand, 1) := by decide +kernel
theorem dX2_beatsOfBars_7 : decode cX2_beatsOfBars 7 = .ok (.iload_n 1, 1) := by decide +kernel
theorem dX2_beatsOfBars_8 : decode cX2_beatsOfBars 8 = .ok (.bipush 6, 2) := by decide +kernel
theorem dX2_beatsOfBars_10 : decode cX2_beatsOfBars 10 = .ok (.imul, 1) := by decide +kernel
theorem dX2_beatsOfBars_11 : decode cX2_beatsOfBars 11 = .ok (.ishr, 1) := by decide +kernel
theorem dX2_beatsOfBars_12 : decode cX2_beatsOfBars 12 = .ok (.ireturn, 1) := by decide +kernel
theorem dX2_doorsSeen_0 : decode cX2_doorsSeen 0 = .ok (.iconst 0, 1) := by decide +kernel
theorem dX2_doorsSeen_1 : decode cX2_doorsSeen 1 = .ok (.istore 4, 2) := by decide +kernel
theorem dX2_doorsSeen_3 : decode cX2_doorsSeen 3 = .ok (.iconst 0, 1) := by decide +kernel
theorem dX2_doorsSeen_4 : decode cX2_doorsSeen 4 = .ok (.istore 5, 2) := by decide +kernel
theorem dX2_doorsSeen_6 : decode cX2_doorsSeen 6 = .ok (.iload 5, 2) := by decide +kernel
theorem dX2_doorsSeen_8 : decode cX2_doorsSeen 8 = .ok (.aload_n 0, 1) := by decide +kernel
theorem dX2_doorsSeen_9 : decode cX2_doorsSeen 9 = .ok (.getfield 25, 3) := by decide +kernel
theorem dX2_doorsSeen_12 : decode cX2_doorsSeen 12 = .ok (.if_icmp .ge 41, 3) := by decide +kernel
theorem dX2_doorsSeen_15 : decode cX2_doorsSeen 15 = .ok (.aload_n 0, 1) := by decide +kernel
theorem dX2_doorsSeen_16 : decode cX2_doorsSeen 16 = .ok (.iload 5, 2) := by decide +kernel
theorem dX2_doorsSeen_18 : decode cX2_doorsSeen 18 = .ok (.invokevirtual 59, 3) := by decide +kernel
theorem dX2_doorsSeen_21 : decode cX2_doorsSeen 21 = .ok (.iload_n 3, 1) := by decide +kernel
theorem dX2_doorsSeen_22 : decode cX2_doorsSeen 22 = .ok (.if_icmp .ne 25, 3) := by decide +kernel
theorem dX2_doorsSeen_25 : decode cX2_doorsSeen 25 = .ok (.aload_n 0, 1) := by decide +kernel
theorem dX2_doorsSeen_26 : decode cX2_doorsSeen 26 = .ok (.iload 5, 2) := by decide +kernel
theorem dX2_doorsSeen_28 : decode cX2_doorsSeen 28 = .ok (.iconst 0, 1) := by decide +kernel
theorem dX2_doorsSeen_29 : decode cX2_doorsSeen 29 = .ok (.iload_n 1, 1) := by decide +kernel
theorem dX2_doorsSeen_30 : decode cX2_doorsSeen 30 = .ok (.aload_n 2, 1) := by decide +kernel
theorem dX2_doorsSeen_31 : decode cX2_doorsSeen 31 = .ok (.iload_n 3, 1) := by decide +kernel
theorem dX2_doorsSeen_32 : decode cX2_doorsSeen 32 = .ok (.invokevirtual 65, 3) := by decide +kernel
theorem dX2_doorsSeen_35 : decode cX2_doorsSeen 35 = .ok (.ifCond .eq 12, 3) := by decide +kernel
theorem dX2_doorsSeen_38 : decode cX2_doorsSeen 38 = .ok (.iload 4, 2) := by decide +kernel
theorem dX2_doorsSeen_40 : decode cX2_doorsSeen 40 = .ok (.iconst 1, 1) := by decide +kernel
theorem dX2_doorsSeen_41 : decode cX2_doorsSeen 41 = .ok (.iload 5, 2) := by decide +kernel
theorem dX2_doorsSeen_43 : decode cX2_doorsSeen 43 = .ok (.ishl, 1) := by decide +kernel
theorem dX2_doorsSeen_44 : decode cX2_doorsSeen 44 = .ok (.ior, 1) := by decide +kernel
theorem dX2_doorsSeen_45 : decode cX2_doorsSeen 45 = .ok (.istore 4, 2) := by decide +kernel
theorem dX2_doorsSeen_47 : decode cX2_doorsSeen 47 = .ok (.iinc 5 1, 3) := by decide +kernel
theorem dX2_doorsSeen_50 : decode cX2_doorsSeen 50 = .ok (.goto (-44), 3) := by decide +kernel
theorem dX2_doorsSeen_53 : decode cX2_doorsSeen 53 = .ok (.iload 4, 2) := by decide +kernel
theorem dX2_doorsSeen_55 : decode cX2_doorsSeen 55 = .ok (.ireturn, 1) := by decide +kernel
theorem dX2_doorsWithPart_0 : decode cX2_doorsWithPart 0 = .ok (.iconst 0, 1) := by decide +kernel
theorem dX2_doorsWithPart_1 : decode cX2_doorsWithPart 1 = .ok (.istore_n 3, 1) := by decide +kernel
theorem dX2_doorsWithPart_2 : decode cX2_doorsWithPart 2 = .ok (.iconst 0, 1) := by decide +kernel
theorem dX2_doorsWithPart_3 : decode cX2_doorsWithPart 3 = .ok (.istore 4, 2) := by decide +kernel
theorem dX2_doorsWithPart_5 : decode cX2_doorsWithPart 5 = .ok (.iload 4, 2) := by decide +kernel
theorem dX2_doorsWithPart_7 : decode cX2_doorsWithPart 7 = .ok (.aload_n 0, 1) := by decide +kernel
theorem dX2_doorsWithPart_8 : decode cX2_doorsWithPart 8 = .ok (.getfield 25, 3) := by decide +kernel
theorem dX2_doorsWithPart_11 : decode cX2_doorsWithPart 11 = .ok (.if_icmp .ge 55, 3) := by decide +kernel
theorem dX2_doorsWithPart_14 : decode cX2_doorsWithPart 14 = .ok (.iconst 0, 1) := by decide +kernel
theorem dX2_doorsWithPart_15 : decode cX2_doorsWithPart 15 = .ok (.istore 5, 2) := by decide +kernel
theorem dX2_doorsWithPart_17 : decode cX2_doorsWithPart 17 = .ok (.iload 5, 2) := by decide +kernel
theorem dX2_doorsWithPart_19 : decode cX2_doorsWithPart 19 = .ok (.aload_n 0, 1) := by decide +kernel
theorem dX2_doorsWithPart_20 : decode cX2_doorsWithPart 20 = .ok (.iload 4, 2) := by decide +kernel
theorem dX2_doorsWithPart_22 : decode cX2_doorsWithPart 22 = .ok (.invokevirtual 59, 3) := by decide +kernel
theorem dX2_doorsWithPart_25 : decode cX2_doorsWithPart 25 = .ok (.iload_n 2, 1) := by decide +kernel
theorem dX2_doorsWithPart_26 : decode cX2_doorsWithPart 26 = .ok (.isub, 1) := by decide +kernel
theorem dX2_doorsWithPart_27 : decode cX2_doorsWithPart 27 = .ok (.if_icmp .gt 33, 3) := by decide +kernel
theorem dX2_doorsWithPart_30 : decode cX2_doorsWithPart 30 = .ok (.aload_n 0, 1) := by decide +kernel
theorem dX2_doorsWithPart_31 : decode cX2_doorsWithPart 31 = .ok (.iload 4, 2) := by decide +kernel
theorem dX2_doorsWithPart_33 : decode cX2_doorsWithPart 33 = .ok (.iload 5, 2) := by decide +kernel
theorem dX2_doorsWithPart_35 : decode cX2_doorsWithPart 35 = .ok (.aload_n 0, 1) := by decide +kernel
theorem dX2_doorsWithPart_36 : decode cX2_doorsWithPart 36 = .ok (.invokevirtual 69, 3) := by decide +kernel
theorem dX2_doorsWithPart_39 : decode cX2_doorsWithPart 39 = .ok (.aload_n 1, 1) := by decide +kernel
theorem dX2_doorsWithPart_40 : decode cX2_doorsWithPart 40 = .ok (.iload_n 2, 1) := by decide +kernel
theorem dX2_doorsWithPart_41 : decode cX2_doorsWithPart 41 = .ok (.invokevirtual 65, 3) := by decide +kernel
theorem dX2_doorsWithPart_44 : decode cX2_doorsWithPart 44 = .ok (.ifCond .eq 10, 3) := by decide +kernel
theorem dX2_doorsWithPart_47 : decode cX2_doorsWithPart 47 = .ok (.iload_n 3, 1) := by decide +kernel
theorem dX2_doorsWithPart_48 : decode cX2_doorsWithPart 48 = .ok (.iconst 1, 1) := by decide +kernel
theorem dX2_doorsWithPart_49 : decode cX2_doorsWithPart 49 = .ok (.iload 4, 2) := by decide +kernel
theorem dX2_doorsWithPart_51 : decode cX2_doorsWithPart 51 = .ok (.ishl, 1) := by decide +kernel
theorem dX2_doorsWithPart_52 : decode cX2_doorsWithPart 52 = .ok (.ior, 1) := by decide +kernel
theorem dX2_doorsWithPart_53 : decode cX2_doorsWithPart 53 = .ok (.istore_n 3, 1) := by decide +kernel
theorem dX2_doorsWithPart_54 : decode cX2_doorsWithPart 54 = .ok (.iinc 5 1, 3) := by decide +kernel
theorem dX2_doorsWithPart_57 : decode cX2_doorsWithPart 57 = .ok (.goto (-40), 3) := by decide +kernel
theorem dX2_doorsWithPart_60 : decode cX2_doorsWithPart 60 = .ok (.iinc 4 1, 3) := by decide +kernel
theorem dX2_doorsWithPart_63 : decode cX2_doorsWithPart 63 = .ok (.goto (-58), 3) := by decide +kernel
theorem dX2_doorsWithPart_66 : decode cX2_doorsWithPart 66 = .ok (.iload_n 3, 1) := by decide +kernel
theorem dX2_doorsWithPart_67 : decode cX2_doorsWithPart 67 = .ok (.ireturn, 1) := by decide +kernel
theorem dX2_agrees_0 : decode cX2_agrees 0 = .ok (.iconst 0, 1) := by decide +kernel
theorem dX2_agrees_1 : decode cX2_agrees 1 = .ok (.istore 6, 2) := by decide +kernel
theorem dX2_agrees_3 : decode cX2_agrees 3 = .ok (.iload 6, 2) := by decide +kernel
theorem dX2_agrees_5 : decode cX2_agrees 5 = .ok (.iload 5, 2) := by decide +kernel
theorem dX2_agrees_7 : decode cX2_agrees 7 = .ok (.if_icmp .ge 38, 3) := by decide +kernel
theorem dX2_agrees_10 : decode cX2_agrees 10 = .ok (.iload 6, 2) := by decide +kernel
theorem dX2_agrees_12 : decode cX2_agrees 12 = .ok (.aload 4, 2) := by decide +kernel
theorem dX2_agrees_14 : decode cX2_agrees 14 = .ok (.arraylength, 1) := by decide +kernel
theorem dX2_agrees_15 : decode cX2_agrees 15 = .ok (.if_icmp .ge 30, 3) := by decide +kernel
theorem dX2_agrees_18 : decode cX2_agrees 18 = .ok (.aload_n 0, 1) := by decide +kernel
theorem dX2_agrees_19 : decode cX2_agrees 19 = .ok (.iload_n 1, 1) := by decide +kernel
theorem dX2_agrees_20 : decode cX2_agrees 20 = .ok (.iload_n 2, 1) := by decide +kernel
theorem dX2_agrees_21 : decode cX2_agrees 21 = .ok (.iload 6, 2) := by decide +kernel
theorem dX2_agrees_23 : decode cX2_agrees 23 = .ok (.iadd, 1) := by decide +kernel
theorem dX2_agrees_24 : decode cX2_agrees 24 = .ok (.invokevirtual 55, 3) := by decide +kernel
theorem dX2_agrees_27 : decode cX2_agrees 27 = .ok (.iload_n 3, 1) := by decide +kernel
theorem dX2_agrees_28 : decode cX2_agrees 28 = .ok (.iand, 1) := by decide +kernel
theorem dX2_agrees_29 : decode cX2_agrees 29 = .ok (.aload 4, 2) := by decide +kernel
theorem dX2_agrees_31 : decode cX2_agrees 31 = .ok (.iload 6, 2) := by decide +kernel
theorem dX2_agrees_33 : decode cX2_agrees 33 = .ok (.iaload, 1) := by decide +kernel
theorem dX2_agrees_34 : decode cX2_agrees 34 = .ok (.if_icmp .eq 5, 3) := by decide +kernel
theorem dX2_agrees_37 : decode cX2_agrees 37 = .ok (.iconst 0, 1) := by decide +kernel
theorem dX2_agrees_38 : decode cX2_agrees 38 = .ok (.ireturn, 1) := by decide +kernel
theorem dX2_agrees_39 : decode cX2_agrees 39 = .ok (.iinc 6 1, 3) := by decide +kernel
theorem dX2_agrees_42 : decode cX2_agrees 42 = .ok (.goto (-39), 3) := by decide +kernel
theorem dX2_agrees_45 : decode cX2_agrees 45 = .ok (.iconst 1, 1) := by decide +kernel
theorem dX2_agrees_46 : decode cX2_agrees 46 = .ok (.ireturn, 1) := by decide +kernel
theorem dX2_beatsUnlike_0 : decode cX2_beatsUnlike 0 = .ok (.iconst 0, 1) := by decide +kernel
theorem dX2_beatsUnlike_1 : decode cX2_beatsUnlike 1 = .ok (.istore_n 3, 1) := by decide +kernel
theorem dX2_beatsUnlike_2 : decode cX2_beatsUnlike 2 = .ok (.iconst 0, 1) := by decide +kernel
theorem dX2_beatsUnlike_3 : decode cX2_beatsUnlike 3 = .ok (.istore 4, 2) := by decide +kernel
theorem dX2_beatsUnlike_5 : decode cX2_beatsUnlike 5 = .ok (.iload 4, 2) := by decide +kernel
theorem dX2_beatsUnlike_7 : decode cX2_beatsUnlike 7 = .ok (.bipush 6, 2) := by decide +kernel
theorem dX2_beatsUnlike_9 : decode cX2_beatsUnlike 9 = .ok (.if_icmp .ge 46, 3) := by decide +kernel
theorem dX2_beatsUnlike_12 : decode cX2_beatsUnlike 12 = .ok (.aload_n 0, 1) := by decide +kernel
theorem dX2_beatsUnlike_13 : decode cX2_beatsUnlike 13 = .ok (.iload_n 1, 1) := by decide +kernel
theorem dX2_beatsUnlike_14 : decode cX2_beatsUnlike 14 = .ok (.iload 4, 2) := by decide +kernel
theorem dX2_beatsUnlike_16 : decode cX2_beatsUnlike 16 = .ok (.invokevirtual 51, 3) := by decide +kernel
theorem dX2_beatsUnlike_19 : decode cX2_beatsUnlike 19 = .ok (.aload_n 0, 1) := by decide +kernel
theorem dX2_beatsUnlike_20 : decode cX2_beatsUnlike 20 = .ok (.iload_n 2, 1) := by decide +kernel
theorem dX2_beatsUnlike_21 : decode cX2_beatsUnlike 21 = .ok (.iload 4, 2) := by decide +kernel
theorem dX2_beatsUnlike_23 : decode cX2_beatsUnlike 23 = .ok (.invokevirtual 51, 3) := by decide +kernel
theorem dX2_beatsUnlike_26 : decode cX2_beatsUnlike 26 = .ok (.if_icmp .ne 20, 3) := by decide +kernel
theorem dX2_beatsUnlike_29 : decode cX2_beatsUnlike 29 = .ok (.aload_n 0, 1) := by decide +kernel
theorem dX2_beatsUnlike_30 : decode cX2_beatsUnlike 30 = .ok (.iload_n 1, 1) := by decide +kernel
theorem dX2_beatsUnlike_31 : decode cX2_beatsUnlike 31 = .ok (.iload 4, 2) := by decide +kernel
theorem dX2_beatsUnlike_33 : decode cX2_beatsUnlike 33 = .ok (.invokevirtual 55, 3) := by decide +kernel
theorem dX2_beatsUnlike_36 : decode cX2_beatsUnlike 36 = .ok (.aload_n 0, 1) := by decide +kernel
theorem dX2_beatsUnlike_37 : decode cX2_beatsUnlike 37 = .ok (.iload_n 2, 1) := by decide +kernel
theorem dX2_beatsUnlike_38 : decode cX2_beatsUnlike 38 = .ok (.iload 4, 2) := by decide +kernel
theorem dX2_beatsUnlike_40 : decode cX2_beatsUnlike 40 = .ok (.invokevirtual 55, 3) := by decide +kernel
theorem dX2_beatsUnlike_43 : decode cX2_beatsUnlike 43 = .ok (.if_icmp .eq 6, 3) := by decide +kernel
theorem dX2_beatsUnlike_46 : decode cX2_beatsUnlike 46 = .ok (.iinc 3 1, 3) := by decide +kernel
theorem dX2_beatsUnlike_49 : decode cX2_beatsUnlike 49 = .ok (.iinc 4 1, 3) := by decide +kernel
theorem dX2_beatsUnlike_52 : decode cX2_beatsUnlike 52 = .ok (.goto (-47), 3) := by decide +kernel
theorem dX2_beatsUnlike_55 : decode cX2_beatsUnlike 55 = .ok (.iload_n 3, 1) := by decide +kernel
theorem dX2_beatsUnlike_56 : decode cX2_beatsUnlike 56 = .ok (.ireturn, 1) := by decide +kernel
theorem dX2_leastUnlike_0 : decode cX2_leastUnlike 0 = .ok (.bipush (-9), 2) := by decide +kernel
theorem dX2_leastUnlike_2 : decode cX2_leastUnlike 2 = .ok (.istore_n 2, 1) := by decide +kernel
theorem dX2_leastUnlike_3 : decode cX2_leastUnlike 3 = .ok (.bipush 7, 2) := by decide +kernel
theorem dX2_leastUnlike_5 : decode cX2_leastUnlike 5 = .ok (.istore_n 3, 1) := by decide +kernel
theorem dX2_leastUnlike_6 : decode cX2_leastUnlike 6 = .ok (.iconst 0, 1) := by decide +kernel
theorem dX2_leastUnlike_7 : decode cX2_leastUnlike 7 = .ok (.istore 4, 2) := by decide +kernel
theorem dX2_leastUnlike_9 : decode cX2_leastUnlike 9 = .ok (.iload 4, 2) := by decide +kernel
theorem dX2_leastUnlike_11 : decode cX2_leastUnlike 11 = .ok (.aload_n 0, 1) := by decide +kernel
theorem dX2_leastUnlike_12 : decode cX2_leastUnlike 12 = .ok (.getfield 25, 3) := by decide +kernel
theorem dX2_leastUnlike_15 : decode cX2_leastUnlike 15 = .ok (.if_icmp .ge 37, 3) := by decide +kernel
theorem dX2_leastUnlike_18 : decode cX2_leastUnlike 18 = .ok (.iload 4, 2) := by decide +kernel
theorem dX2_leastUnlike_20 : decode cX2_leastUnlike 20 = .ok (.iload_n 1, 1) := by decide +kernel
theorem dX2_leastUnlike_21 : decode cX2_leastUnlike 21 = .ok (.if_icmp .eq 25, 3) := by decide +kernel
theorem dX2_leastUnlike_24 : decode cX2_leastUnlike 24 = .ok (.aload_n 0, 1) := by decide +kernel
theorem dX2_leastUnlike_25 : decode cX2_leastUnlike 25 = .ok (.iload_n 1, 1) := by decide +kernel
theorem dX2_leastUnlike_26 : decode cX2_leastUnlike 26 = .ok (.iload 4, 2) := by decide +kernel
theorem dX2_leastUnlike_28 : decode cX2_leastUnlike 28 = .ok (.invokevirtual 73, 3) := by decide +kernel
theorem dX2_leastUnlike_31 : decode cX2_leastUnlike 31 = .ok (.iload_n 3, 1) := by decide +kernel
theorem dX2_leastUnlike_32 : decode cX2_leastUnlike 32 = .ok (.if_icmp .ge 14, 3) := by decide +kernel
theorem dX2_leastUnlike_35 : decode cX2_leastUnlike 35 = .ok (.aload_n 0, 1) := by decide +kernel
theorem dX2_leastUnlike_36 : decode cX2_leastUnlike 36 = .ok (.iload_n 1, 1) := by decide +kernel
theorem dX2_leastUnlike_37 : decode cX2_leastUnlike 37 = .ok (.iload 4, 2) := by decide +kernel
theorem dX2_leastUnlike_39 : decode cX2_leastUnlike 39 = .ok (.invokevirtual 73, 3) := by decide +kernel
theorem dX2_leastUnlike_42 : decode cX2_leastUnlike 42 = .ok (.istore_n 3, 1) := by decide +kernel
theorem dX2_leastUnlike_43 : decode cX2_leastUnlike 43 = .ok (.iload 4, 2) := by decide +kernel
theorem dX2_leastUnlike_45 : decode cX2_leastUnlike 45 = .ok (.istore_n 2, 1) := by decide +kernel
theorem dX2_leastUnlike_46 : decode cX2_leastUnlike 46 = .ok (.iinc 4 1, 3) := by decide +kernel
theorem dX2_leastUnlike_49 : decode cX2_leastUnlike 49 = .ok (.goto (-40), 3) := by decide +kernel
theorem dX2_leastUnlike_52 : decode cX2_leastUnlike 52 = .ok (.iload_n 2, 1) := by decide +kernel
theorem dX2_leastUnlike_53 : decode cX2_leastUnlike 53 = .ok (.ireturn, 1) := by decide +kernel
theorem dX2_someDoorBeginsAnother_0 : decode cX2_someDoorBeginsAnother 0 = .ok (.iconst 0, 1) := by decide +kernel
theorem dX2_someDoorBeginsAnother_1 : decode cX2_someDoorBeginsAnother 1 = .ok (.istore_n 1, 1) := by decide +kernel
theorem dX2_someDoorBeginsAnother_2 : decode cX2_someDoorBeginsAnother 2 = .ok (.iload_n 1, 1) := by decide +kernel
theorem dX2_someDoorBeginsAnother_3 : decode cX2_someDoorBeginsAnother 3 = .ok (.aload_n 0, 1) := by decide +kernel
theorem dX2_someDoorBeginsAnother_4 : decode cX2_someDoorBeginsAnother 4 = .ok (.getfield 25, 3) := by decide +kernel
theorem dX2_someDoorBeginsAnother_7 : decode cX2_someDoorBeginsAnother 7 = .ok (.if_icmp .ge 41, 3) := by decide +kernel
theorem dX2_someDoorBeginsAnother_10 : decode cX2_someDoorBeginsAnother 10 = .ok (.iconst 0, 1) := by decide +kernel
theorem dX2_someDoorBeginsAnother_11 : decode cX2_someDoorBeginsAnother 11 = .ok (.istore_n 2, 1) := by decide +kernel
theorem dX2_someDoorBeginsAnother_12 : decode cX2_someDoorBeginsAnother 12 = .ok (.iload_n 2, 1) := by decide +kernel
theorem dX2_someDoorBeginsAnother_13 : decode cX2_someDoorBeginsAnother 13 = .ok (.aload_n 0, 1) := by decide +kernel
theorem dX2_someDoorBeginsAnother_14 : decode cX2_someDoorBeginsAnother 14 = .ok (.getfield 25, 3) := by decide +kernel
theorem dX2_someDoorBeginsAnother_17 : decode cX2_someDoorBeginsAnother 17 = .ok (.if_icmp .ge 25, 3) := by decide +kernel
theorem dX2_someDoorBeginsAnother_20 : decode cX2_someDoorBeginsAnother 20 = .ok (.iload_n 2, 1) := by decide +kernel
theorem dX2_someDoorBeginsAnother_21 : decode cX2_someDoorBeginsAnother 21 = .ok (.iload_n 1, 1) := by decide +kernel
theorem dX2_someDoorBeginsAnother_22 : decode cX2_someDoorBeginsAnother 22 = .ok (.if_icmp .eq 14, 3) := by decide +kernel
theorem dX2_someDoorBeginsAnother_25 : decode cX2_someDoorBeginsAnother 25 = .ok (.aload_n 0, 1) := by decide +kernel
theorem dX2_someDoorBeginsAnother_26 : decode cX2_someDoorBeginsAnother 26 = .ok (.iload_n 1, 1) := by decide +kernel
theorem dX2_someDoorBeginsAnother_27 : decode cX2_someDoorBeginsAnother 27 = .ok (.iload_n 2, 1) := by decide +kernel
theorem dX2_someDoorBeginsAnother_28 : decode cX2_someDoorBeginsAnother 28 = .ok (.invokevirtual 76, 3) := by decide +kernel
theorem dX2_someDoorBeginsAnother_31 : decode cX2_someDoorBeginsAnother 31 = .ok (.ifCond .eq 5, 3) := by decide +kernel
theorem dX2_someDoorBeginsAnother_34 : decode cX2_someDoorBeginsAnother 34 = .ok (.iconst 1, 1) := by decide +kernel
theorem dX2_someDoorBeginsAnother_35 : decode cX2_someDoorBeginsAnother 35 = .ok (.ireturn, 1) := by decide +kernel
theorem dX2_someDoorBeginsAnother_36 : decode cX2_someDoorBeginsAnother 36 = .ok (.iinc 2 1, 3) := by decide +kernel
theorem dX2_someDoorBeginsAnother_39 : decode cX2_someDoorBeginsAnother 39 = .ok (.goto (-27), 3) := by decide +kernel
theorem dX2_someDoorBeginsAnother_42 : decode cX2_someDoorBeginsAnother 42 = .ok (.iinc 1 1, 3) := by decide +kernel
theorem dX2_someDoorBeginsAnother_45 : decode cX2_someDoorBeginsAnother 45 = .ok (.goto (-43), 3) := by decide +kernel
theorem dX2_someDoorBeginsAnother_48 : decode cX2_someDoorBeginsAnother 48 = .ok (.iconst 0, 1) := by decide +kernel
theorem dX2_someDoorBeginsAnother_49 : decode cX2_someDoorBeginsAnother 49 = .ok (.ireturn, 1) := by decide +kernel
theorem dX2_begins_0 : decode cX2_begins 0 = .ok (.aload_n 0, 1) := by decide +kernel
theorem dX2_begins_1 : decode cX2_begins 1 = .ok (.iload_n 1, 1) := by decide +kernel
theorem dX2_begins_2 : decode cX2_begins 2 = .ok (.invokevirtual 59, 3) := by decide +kernel
theorem dX2_begins_5 : decode cX2_begins 5 = .ok (.aload_n 0, 1) := by decide +kernel
theorem dX2_begins_6 : decode cX2_begins 6 = .ok (.iload_n 2, 1) := by decide +kernel
theorem dX2_begins_7 : decode cX2_begins 7 = .ok (.invokevirtual 59, 3) := by decide +kernel
theorem dX2_begins_10 : decode cX2_begins 10 = .ok (.if_icmp .gt 27, 3) := by decide +kernel
theorem dX2_begins_13 : decode cX2_begins 13 = .ok (.aload_n 0, 1) := by decide +kernel
theorem dX2_begins_14 : decode cX2_begins 14 = .ok (.iload_n 1, 1) := by decide +kernel
theorem dX2_begins_15 : decode cX2_begins 15 = .ok (.iload_n 2, 1) := by decide +kernel
theorem dX2_begins_16 : decode cX2_begins 16 = .ok (.invokevirtual 73, 3) := by decide +kernel
theorem dX2_begins_19 : decode cX2_begins 19 = .ok (.aload_n 0, 1) := by decide +kernel
theorem dX2_begins_20 : decode cX2_begins 20 = .ok (.iload_n 2, 1) := by decide +kernel
theorem dX2_begins_21 : decode cX2_begins 21 = .ok (.invokevirtual 59, 3) := by decide +kernel
theorem dX2_begins_24 : decode cX2_begins 24 = .ok (.aload_n 0, 1) := by decide +kernel
theorem dX2_begins_25 : decode cX2_begins 25 = .ok (.iload_n 1, 1) := by decide +kernel
theorem dX2_begins_26 : decode cX2_begins 26 = .ok (.invokevirtual 59, 3) := by decide +kernel
theorem dX2_begins_29 : decode cX2_begins 29 = .ok (.isub, 1) := by decide +kernel
theorem dX2_begins_30 : decode cX2_begins 30 = .ok (.if_icmp .ne 7, 3) := by decide +kernel
theorem dX2_begins_33 : decode cX2_begins 33 = .ok (.iconst 1, 1) := by decide +kernel
theorem dX2_begins_34 : decode cX2_begins 34 = .ok (.goto 4, 3) := by decide +kernel
theorem dX2_begins_37 : decode cX2_begins 37 = .ok (.iconst 0, 1) := by decide +kernel
theorem dX2_begins_38 : decode cX2_begins 38 = .ok (.ireturn, 1) := by decide +kernel
theorem dX3_init_0 : decode cX3_init 0 = .ok (.aload_n 0, 1) := by decide +kernel
theorem dX3_init_1 : decode cX3_init 1 = .ok (.invokespecial 3, 3) := by decide +kernel
theorem dX3_init_4 : decode cX3_init 4 = .ok (.aload_n 0, 1) := by decide +kernel
theorem dX3_init_5 : decode cX3_init 5 = .ok (.iconst 4, 1) := by decide +kernel
theorem dX3_init_6 : decode cX3_init 6 = .ok (.newarray .int, 2) := by decide +kernel
theorem dX3_init_8 : decode cX3_init 8 = .ok (.putfield 11, 3) := by decide +kernel
theorem dX3_init_11 : decode cX3_init 11 = .ok (.aload_n 0, 1) := by decide +kernel
theorem dX3_init_12 : decode cX3_init 12 = .ok (.iconst 4, 1) := by decide +kernel
theorem dX3_init_13 : decode cX3_init 13 = .ok (.newarray .int, 2) := by decide +kernel
theorem dX3_init_15 : decode cX3_init 15 = .ok (.putfield 15, 3) := by decide +kernel
theorem dX3_init_18 : decode cX3_init 18 = .ok (.aload_n 0, 1) := by decide +kernel
theorem dX3_init_19 : decode cX3_init 19 = .ok (.sipush 320, 3) := by decide +kernel
theorem dX3_init_22 : decode cX3_init 22 = .ok (.newarray .int, 2) := by decide +kernel
theorem dX3_init_24 : decode cX3_init 24 = .ok (.putfield 18, 3) := by decide +kernel
theorem dX3_init_27 : decode cX3_init 27 = .ok (.aload_n 0, 1) := by decide +kernel
theorem dX3_init_28 : decode cX3_init 28 = .ok (.getfield 11, 3) := by decide +kernel
theorem dX3_init_31 : decode cX3_init 31 = .ok (.iconst (-1), 1) := by decide +kernel
theorem dX3_init_32 : decode cX3_init 32 = .ok (.invokestatic 21, 3) := by decide +kernel
theorem dX3_init_35 : decode cX3_init 35 = .ok (.return_, 1) := by decide +kernel
theorem dX3_includes_0 : decode cX3_includes 0 = .ok (.iload_n 1, 1) := by decide +kernel
theorem dX3_includes_1 : decode cX3_includes 1 = .ok (.ifCond .lt 12, 3) := by decide +kernel
theorem dX3_includes_4 : decode cX3_includes 4 = .ok (.iload_n 1, 1) := by decide +kernel
theorem dX3_includes_5 : decode cX3_includes 5 = .ok (.iconst 4, 1) := by decide +kernel
theorem dX3_includes_6 : decode cX3_includes 6 = .ok (.if_icmp .ge 7, 3) := by decide +kernel
theorem dX3_includes_9 : decode cX3_includes 9 = .ok (.iconst 1, 1) := by decide +kernel
theorem dX3_includes_10 : decode cX3_includes 10 = .ok (.goto 4, 3) := by decide +kernel
theorem dX3_includes_13 : decode cX3_includes 13 = .ok (.iconst 0, 1) := by decide +kernel
theorem dX3_includes_14 : decode cX3_includes 14 = .ok (.ireturn, 1) := by decide +kernel
theorem dX3_isNothing_0 : decode cX3_isNothing 0 = .ok (.aload_n 0, 1) := by decide +kernel
theorem dX3_isNothing_1 : decode cX3_isNothing 1 = .ok (.iload_n 1, 1) := by decide +kernel
theorem dX3_isNothing_2 : decode cX3_isNothing 2 = .ok (.invokevirtual 27, 3) := by decide +kernel
theorem dX3_isNothing_5 : decode cX3_isNothing 5 = .ok (.iconst (-1), 1) := by decide +kernel
theorem dX3_isNothing_6 : decode cX3_isNothing 6 = .ok (.if_icmp .ne 7, 3) := by decide +kernel
theorem dX3_isNothing_9 : decode cX3_isNothing 9 = .ok (.iconst 1, 1) := by decide +kernel
theorem dX3_isNothing_10 : decode cX3_isNothing 10 = .ok (.goto 4, 3) := by decide +kernel
theorem dX3_isNothing_13 : decode cX3_isNothing 13 = .ok (.iconst 0, 1) := by decide +kernel
theorem dX3_isNothing_14 : decode cX3_isNothing 14 = .ok (.ireturn, 1) := by decide +kernel
theorem dX3_sortOf_0 : decode cX3_sortOf 0 = .ok (.aload_n 0, 1) := by decide +kernel
theorem dX3_sortOf_1 : decode cX3_sortOf 1 = .ok (.iload_n 1, 1) := by decide +kernel
theorem dX3_sortOf_2 : decode cX3_sortOf 2 = .ok (.invokevirtual 31, 3) := by decide +kernel
theorem dX3_sortOf_5 : decode cX3_sortOf 5 = .ok (.ifCond .eq 12, 3) := by decide +kernel
theorem dX3_sortOf_8 : decode cX3_sortOf 8 = .ok (.aload_n 0, 1) := by decide +kernel
theorem dX3_sortOf_9 : decode cX3_sortOf 9 = .ok (.getfield 11, 3) := by decide +kernel
theorem dX3_sortOf_12 : decode cX3_sortOf 12 = .ok (.iload_n 1, 1) := by decide +kernel
theorem dX3_sortOf_13 : decode cX3_sortOf 13 = .ok (.iaload, 1) := by decide +kernel
theorem dX3_sortOf_14 : decode cX3_sortOf 14 = .ok (.goto 4, 3) := by decide +kernel
theorem dX3_sortOf_17 : decode cX3_sortOf 17 = .ok (.iconst (-1), 1) := by decide +kernel
theorem dX3_sortOf_18 : decode cX3_sortOf 18 = .ok (.ireturn, 1) := by decide +kernel
theorem dX3_lengthOf_0 : decode cX3_lengthOf 0 = .ok (.aload_n 0, 1) := by decide +kernel
theorem dX3_lengthOf_1 : decode cX3_lengthOf 1 = .ok (.iload_n 1, 1) := by decide +kernel
theorem dX3_lengthOf_2 : decode cX3_lengthOf 2 = .ok (.invokevirtual 31, 3) := by decide +kernel
theorem dX3_lengthOf_5 : decode cX3_lengthOf 5 = .ok (.ifCond .eq 12, 3) := by decide +kernel
theorem dX3_lengthOf_8 : decode cX3_lengthOf 8 = .ok (.aload_n 0, 1) := by decide +kernel
theorem dX3_lengthOf_9 : decode cX3_lengthOf 9 = .ok (.getfield 15, 3) := by decide +kernel
theorem dX3_lengthOf_12 : decode cX3_lengthOf 12 = .ok (.iload_n 1, 1) := by decide +kernel
theorem dX3_lengthOf_13 : decode cX3_lengthOf 13 = .ok (.iaload, 1) := by decide +kernel
theorem dX3_lengthOf_14 : decode cX3_lengthOf 14 = .ok (.goto 4, 3) := by decide +kernel
theorem dX3_lengthOf_17 : decode cX3_lengthOf 17 = .ok (.iconst 0, 1) := by decide +kernel
theorem dX3_lengthOf_18 : decode cX3_lengthOf 18 = .ok (.ireturn, 1) := by decide +kernel
theorem dX3_renew_0 : decode cX3_renew 0 = .ok (.aload_n 0, 1) := by decide +kernel
theorem dX3_renew_1 : decode cX3_renew 1 = .ok (.iload_n 1, 1) := by decide +kernel
theorem dX3_renew_2 : decode cX3_renew 2 = .ok (.invokevirtual 31, 3) := by decide +kernel
theorem dX3_renew_5 : decode cX3_renew 5 = .ok (.ifCond .eq 45, 3) := by decide +kernel
theorem dX3_renew_8 : decode cX3_renew 8 = .ok (.iload_n 3, 1) := by decide +kernel
theorem dX3_renew_9 : decode cX3_renew 9 = .ok (.ifCond .lt 41, 3) := by decide +kernel
theorem dX3_renew_12 : decode cX3_renew 12 = .ok (.iload_n 3, 1) := by decide +kernel
theorem dX3_renew_13 : decode cX3_renew 13 = .ok (.bipush 80, 2) := by decide +kernel
theorem dX3_renew_15 : decode cX3_renew 15 = .ok (.if_icmp .gt 35, 3) := by decide +kernel
theorem dX3_renew_18 : decode cX3_renew 18 = .ok (.aload_n 0, 1) := by decide +kernel
theorem dX3_renew_19 : decode cX3_renew 19 = .ok (.getfield 11, 3) := by decide +kernel
theorem dX3_renew_22 : decode cX3_renew 22 = .ok (.iload_n 1, 1) := by decide +kernel
theorem dX3_renew_23 : decode cX3_renew 23 = .ok (.iload_n 2, 1) := by decide +kernel
theorem dX3_renew_24 : decode cX3_renew 24 = .ok (.iastore, 1) := by decide +kernel
theorem dX3_renew_25 : decode cX3_renew 25 = .ok (.aload_n 0, 1) := by decide +kernel
theorem dX3_renew_26 : decode cX3_renew 26 = .ok (.getfield 15, 3) := by decide +kernel
theorem dX3_renew_29 : decode cX3_renew 29 = .ok (.iload_n 1, 1) := by decide +kernel
theorem dX3_renew_30 : decode cX3_renew 30 = .ok (.iload_n 3, 1) := by decide +kernel
theorem dX3_renew_31 : decode cX3_renew 31 = .ok (.iastore, 1) := by decide +kernel
theorem dX3_renew_32 : decode cX3_renew 32 = .ok (.aload_n 0, 1) := by decide +kernel
theorem dX3_renew_33 : decode cX3_renew 33 = .ok (.getfield 18, 3) := by decide +kernel
theorem dX3_renew_36 : decode cX3_renew 36 = .ok (.iload_n 1, 1) := by decide +kernel
theorem dX3_renew_37 : decode cX3_renew 37 = .ok (.bipush 80, 2) := by decide +kernel
theorem dX3_renew_39 : decode cX3_renew 39 = .ok (.imul, 1) := by decide +kernel
theorem dX3_renew_40 : decode cX3_renew 40 = .ok (.iload_n 1, 1) := by decide +kernel
theorem dX3_renew_41 : decode cX3_renew 41 = .ok (.bipush 80, 2) := by decide +kernel
theorem dX3_renew_43 : decode cX3_renew 43 = .ok (.imul, 1) := by decide +kernel
theorem dX3_renew_44 : decode cX3_renew 44 = .ok (.iload_n 3, 1) := by decide +kernel
theorem dX3_renew_45 : decode cX3_renew 45 = .ok (.iadd, 1) := by decide +kernel
theorem dX3_renew_46 : decode cX3_renew 46 = .ok (.iconst 0, 1) := by decide +kernel
theorem dX3_renew_47 : decode cX3_renew 47 = .ok (.invokestatic 35, 3) := by decide +kernel
theorem dX3_renew_50 : decode cX3_renew 50 = .ok (.return_, 1) := by decide +kernel
theorem dX3_drop_0 : decode cX3_drop 0 = .ok (.aload_n 0, 1) := by decide +kernel
theorem dX3_drop_1 : decode cX3_drop 1 = .ok (.iload_n 1, 1) := by decide +kernel
theorem dX3_drop_2 : decode cX3_drop 2 = .ok (.invokevirtual 31, 3) := by decide +kernel
theorem dX3_drop_5 : decode cX3_drop 5 = .ok (.ifCond .eq 17, 3) := by decide +kernel
theorem dX3_drop_8 : decode cX3_drop 8 = .ok (.aload_n 0, 1) := by decide +kernel
theorem dX3_drop_9 : decode cX3_drop 9 = .ok (.getfield 11, 3) := by decide +kernel
theorem dX3_drop_12 : decode cX3_drop 12 = .ok (.iload_n 1, 1) := by decide +kernel
theorem dX3_drop_13 : decode cX3_drop 13 = .ok (.iconst (-1), 1) := by decide +kernel
theorem dX3_drop_14 : decode cX3_drop 14 = .ok (.iastore, 1) := by decide +kernel
theorem dX3_drop_15 : decode cX3_drop 15 = .ok (.aload_n 0, 1) := by decide +kernel
theorem dX3_drop_16 : decode cX3_drop 16 = .ok (.getfield 15, 3) := by decide +kernel
theorem dX3_drop_19 : decode cX3_drop 19 = .ok (.iload_n 1, 1) := by decide +kernel
theorem dX3_drop_20 : decode cX3_drop 20 = .ok (.iconst 0, 1) := by decide +kernel
theorem dX3_drop_21 : decode cX3_drop 21 = .ok (.iastore, 1) := by decide +kernel
theorem dX3_drop_22 : decode cX3_drop 22 = .ok (.return_, 1) := by decide +kernel
theorem dX3_hasCells_0 : decode cX3_hasCells 0 = .ok (.iload_n 2, 1) := by decide +kernel
theorem dX3_hasCells_1 : decode cX3_hasCells 1 = .ok (.ifCond .lt 31, 3) := by decide +kernel
theorem dX3_hasCells_4 : decode cX3_hasCells 4 = .ok (.iload_n 2, 1) := by decide +kernel
theorem dX3_hasCells_5 : decode cX3_hasCells 5 = .ok (.aload_n 0, 1) := by decide +kernel
theorem dX3_hasCells_6 : decode cX3_hasCells 6 = .ok (.iload_n 1, 1) := by decide +kernel
theorem dX3_hasCells_7 : decode cX3_hasCells 7 = .ok (.invokevirtual 38, 3) := by decide +kernel
theorem dX3_hasCells_10 : decode cX3_hasCells 10 = .ok (.if_icmp .gt 22, 3) := by decide +kernel
theorem dX3_hasCells_13 : decode cX3_hasCells 13 = .ok (.iload_n 3, 1) := by decide +kernel
theorem dX3_hasCells_14 : decode cX3_hasCells 14 = .ok (.ifCond .lt 18, 3) := by decide +kernel
theorem dX3_hasCells_17 : decode cX3_hasCells 17 = .ok (.iload_n 3, 1) := by decide +kernel
theorem dX3_hasCells_18 : decode cX3_hasCells 18 = .ok (.aload_n 0, 1) := by decide +kernel
theorem dX3_hasCells_19 : decode cX3_hasCells 19 = .ok (.iload_n 1, 1) := by decide +kernel
theorem dX3_hasCells_20 : decode cX3_hasCells 20 = .ok (.invokevirtual 38, 3) := by decide +kernel
theorem dX3_hasCells_23 : decode cX3_hasCells 23 = .ok (.iload_n 2, 1) := by decide +kernel
theorem dX3_hasCells_24 : decode cX3_hasCells 24 = .ok (.isub, 1) := by decide +kernel
theorem dX3_hasCells_25 : decode cX3_hasCells 25 = .ok (.if_icmp .gt 7, 3) := by decide +kernel
theorem dX3_hasCells_28 : decode cX3_hasCells 28 = .ok (.iconst 1, 1) := by decide +kernel
theorem dX3_hasCells_29 : decode cX3_hasCells 29 = .ok (.goto 4, 3) := by decide +kernel
theorem dX3_hasCells_32 : decode cX3_hasCells 32 = .ok (.iconst 0, 1) := by decide +kernel
theorem dX3_hasCells_33 : decode cX3_hasCells 33 = .ok (.ireturn, 1) := by decide +kernel
theorem dX3_faultOfCells_0 : decode cX3_faultOfCells 0 = .ok (.aload_n 0, 1) := by decide +kernel
theorem dX3_faultOfCells_1 : decode cX3_faultOfCells 1 = .ok (.iload_n 1, 1) := by decide +kernel
theorem dX3_faultOfCells_2 : decode cX3_faultOfCells 2 = .ok (.invokevirtual 41, 3) := by decide +kernel
theorem dX3_faultOfCells_5 : decode cX3_faultOfCells 5 = .ok (.ifCond .eq 5, 3) := by decide +kernel
theorem dX3_faultOfCells_8 : decode cX3_faultOfCells 8 = .ok (.iconst 1, 1) := by decide +kernel
theorem dX3_faultOfCells_9 : decode cX3_faultOfCells 9 = .ok (.ireturn, 1) := by decide +kernel
theorem dX3_faultOfCells_10 : decode cX3_faultOfCells 10 = .ok (.aload_n 0, 1) := by decide +kernel
theorem dX3_faultOfCells_11 : decode cX3_faultOfCells 11 = .ok (.iload_n 1, 1) := by decide +kernel
theorem dX3_faultOfCells_12 : decode cX3_faultOfCells 12 = .ok (.invokevirtual 27, 3) := by decide +kernel
theorem dX3_faultOfCells_15 : decode cX3_faultOfCells 15 = .ok (.iload_n 2, 1) := by decide +kernel
theorem dX3_faultOfCells_16 : decode cX3_faultOfCells 16 = .ok (.if_icmp .eq 5, 3) := by decide +kernel
theorem dX3_faultOfCells_19 : decode cX3_faultOfCells 19 = .ok (.iconst 2, 1) := by decide +kernel
theorem dX3_faultOfCells_20 : decode cX3_faultOfCells 20 = .ok (.ireturn, 1) := by decide +kernel
theorem dX3_faultOfCells_21 : decode cX3_faultOfCells 21 = .ok (.iload 4, 2) := by decide +kernel
theorem dX3_faultOfCells_23 : decode cX3_faultOfCells 23 = .ok (.ifCond .ge 5, 3) := by decide +kernel
theorem dX3_faultOfCells_26 : decode cX3_faultOfCells 26 = .ok (.iconst 4, 1) := by decide +kernel
theorem dX3_faultOfCells_27 : decode cX3_faultOfCells 27 = .ok (.ireturn, 1) := by decide +kernel
theorem dX3_faultOfCells_28 : decode cX3_faultOfCells 28 = .ok (.aload_n 0, 1) := by decide +kernel
theorem dX3_faultOfCells_29 : decode cX3_faultOfCells 29 = .ok (.iload_n 1, 1) := by decide +kernel
theorem dX3_faultOfCells_30 : decode cX3_faultOfCells 30 = .ok (.iload_n 3, 1) := by decide +kernel
theorem dX3_faultOfCells_31 : decode cX3_faultOfCells 31 = .ok (.iload 4, 2) := by decide +kernel
theorem dX3_faultOfCells_33 : decode cX3_faultOfCells 33 = .ok (.invokevirtual 44, 3) := by decide +kernel
theorem dX3_faultOfCells_36 : decode cX3_faultOfCells 36 = .ok (.ifCond .eq 7, 3) := by decide +kernel
theorem dX3_faultOfCells_39 : decode cX3_faultOfCells 39 = .ok (.iconst 0, 1) := by decide +kernel
theorem dX3_faultOfCells_40 : decode cX3_faultOfCells 40 = .ok (.goto 4, 3) := by decide +kernel
theorem dX3_faultOfCells_43 : decode cX3_faultOfCells 43 = .ok (.iconst 3, 1) := by decide +kernel
theorem dX3_faultOfCells_44 : decode cX3_faultOfCells 44 = .ok (.ireturn, 1) := by decide +kernel
theorem dX3_faultOfMove_0 : decode cX3_faultOfMove 0 = .ok (.aload_n 0, 1) := by decide +kernel
theorem dX3_faultOfMove_1 : decode cX3_faultOfMove 1 = .ok (.iload_n 1, 1) := by decide +kernel
theorem dX3_faultOfMove_2 : decode cX3_faultOfMove 2 = .ok (.invokevirtual 41, 3) := by decide +kernel
theorem dX3_faultOfMove_5 : decode cX3_faultOfMove 5 = .ok (.ifCond .ne 11, 3) := by decide +kernel
theorem dX3_faultOfMove_8 : decode cX3_faultOfMove 8 = .ok (.aload_n 0, 1) := by decide +kernel
theorem dX3_faultOfMove_9 : decode cX3_faultOfMove 9 = .ok (.iload_n 3, 1) := by decide +kernel
theorem dX3_faultOfMove_10 : decode cX3_faultOfMove 10 = .ok (.invokevirtual 41, 3) := by decide +kernel
theorem dX3_faultOfMove_13 : decode cX3_faultOfMove 13 = .ok (.ifCond .eq 5, 3) := by decide +kernel
theorem dX3_faultOfMove_16 : decode cX3_faultOfMove 16 = .ok (.iconst 1, 1) := by decide +kernel
theorem dX3_faultOfMove_17 : decode cX3_faultOfMove 17 = .ok (.ireturn, 1) := by decide +kernel
theorem dX3_faultOfMove_18 : decode cX3_faultOfMove 18 = .ok (.aload_n 0, 1) := by decide +kernel
theorem dX3_faultOfMove_19 : decode cX3_faultOfMove 19 = .ok (.iload_n 1, 1) := by decide +kernel
theorem dX3_faultOfMove_20 : decode cX3_faultOfMove 20 = .ok (.invokevirtual 27, 3) := by decide +kernel
theorem dX3_faultOfMove_23 : decode cX3_faultOfMove 23 = .ok (.aload_n 0, 1) := by decide +kernel
theorem dX3_faultOfMove_24 : decode cX3_faultOfMove 24 = .ok (.iload_n 3, 1) := by decide +kernel
theorem dX3_faultOfMove_25 : decode cX3_faultOfMove 25 = .ok (.invokevirtual 27, 3) := by decide +kernel
theorem dX3_faultOfMove_28 : decode cX3_faultOfMove 28 = .ok (.if_icmp .eq 5, 3) := by decide +kernel
theorem dX3_faultOfMove_31 : decode cX3_faultOfMove 31 = .ok (.iconst 2, 1) := by decide +kernel
theorem dX3_faultOfMove_32 : decode cX3_faultOfMove 32 = .ok (.ireturn, 1) := by decide +kernel
theorem dX3_faultOfMove_33 : decode cX3_faultOfMove 33 = .ok (.aload_n 0, 1) := by decide +kernel
theorem dX3_faultOfMove_34 : decode cX3_faultOfMove 34 = .ok (.iload_n 1, 1) := by decide +kernel
theorem dX3_faultOfMove_35 : decode cX3_faultOfMove 35 = .ok (.iload_n 2, 1) := by decide +kernel
theorem dX3_faultOfMove_36 : decode cX3_faultOfMove 36 = .ok (.iload 5, 2) := by decide +kernel
theorem dX3_faultOfMove_38 : decode cX3_faultOfMove 38 = .ok (.invokevirtual 44, 3) := by decide +kernel
theorem dX3_faultOfMove_41 : decode cX3_faultOfMove 41 = .ok (.ifCond .eq 19, 3) := by decide +kernel
theorem dX3_faultOfMove_44 : decode cX3_faultOfMove 44 = .ok (.aload_n 0, 1) := by decide +kernel
theorem dX3_faultOfMove_45 : decode cX3_faultOfMove 45 = .ok (.iload_n 3, 1) := by decide +kernel
theorem dX3_faultOfMove_46 : decode cX3_faultOfMove 46 = .ok (.iload 4, 2) := by decide +kernel
theorem dX3_faultOfMove_48 : decode cX3_faultOfMove 48 = .ok (.iload 5, 2) := by decide +kernel
theorem dX3_faultOfMove_50 : decode cX3_faultOfMove 50 = .ok (.invokevirtual 44, 3) := by decide +kernel
theorem dX3_faultOfMove_53 : decode cX3_faultOfMove 53 = .ok (.ifCond .eq 7, 3) := by decide +kernel
theorem dX3_faultOfMove_56 : decode cX3_faultOfMove 56 = .ok (.iconst 0, 1) := by decide +kernel
theorem dX3_faultOfMove_57 : decode cX3_faultOfMove 57 = .ok (.goto 4, 3) := by decide +kernel
theorem dX3_faultOfMove_60 : decode cX3_faultOfMove 60 = .ok (.iconst 3, 1) := by decide +kernel
theorem dX3_faultOfMove_61 : decode cX3_faultOfMove 61 = .ok (.ireturn, 1) := by decide +kernel
theorem dX3_write_0 : decode cX3_write 0 = .ok (.aload_n 0, 1) := by decide +kernel
theorem dX3_write_1 : decode cX3_write 1 = .ok (.iload_n 1, 1) := by decide +kernel
theorem dX3_write_2 : decode cX3_write 2 = .ok (.iload_n 2, 1) := by decide +kernel
theorem dX3_write_3 : decode cX3_write 3 = .ok (.iconst 1, 1) := by decide +kernel
theorem dX3_write_4 : decode cX3_write 4 = .ok (.invokevirtual 44, 3) := by decide +kernel
theorem dX3_write_7 : decode cX3_write 7 = .ok (.ifCond .eq 24, 3) := by decide +kernel
theorem dX3_write_10 : decode cX3_write 10 = .ok (.aload_n 0, 1) := by decide +kernel
theorem dX3_write_11 : decode cX3_write 11 = .ok (.getfield 18, 3) := by decide +kernel
theorem dX3_write_14 : decode cX3_write 14 = .ok (.iload_n 1, 1) := by decide +kernel
theorem dX3_write_15 : decode cX3_write 15 = .ok (.bipush 80, 2) := by decide +kernel
theorem dX3_write_17 : decode cX3_write 17 = .ok (.imul, 1) := by decide +kernel
theorem dX3_write_18 : decode cX3_write 18 = .ok (.iload_n 2, 1) := by decide +kernel
theorem dX3_write_19 : decode cX3_write 19 = .ok (.iadd, 1) := by decide +kernel
theorem dX3_write_20 : decode cX3_write 20 = .ok (.aload_n 0, 1) := by decide +kernel
theorem dX3_write_21 : decode cX3_write 21 = .ok (.iload_n 3, 1) := by decide +kernel
theorem dX3_write_22 : decode cX3_write 22 = .ok (.aload_n 0, 1) := by decide +kernel
theorem dX3_write_23 : decode cX3_write 23 = .ok (.iload_n 1, 1) := by decide +kernel
theorem dX3_write_24 : decode cX3_write 24 = .ok (.invokevirtual 27, 3) := by decide +kernel
theorem dX3_write_27 : decode cX3_write 27 = .ok (.invokevirtual 48, 3) := by decide +kernel
theorem dX3_write_30 : decode cX3_write 30 = .ok (.iastore, 1) := by decide +kernel
theorem dX3_write_31 : decode cX3_write 31 = .ok (.return_, 1) := by decide +kernel
theorem dX3_cut_0 : decode cX3_cut 0 = .ok (.iload_n 2, 1) := by decide +kernel
theorem dX3_cut_1 : decode cX3_cut 1 = .ok (.lookupswitch 33 #[(0, 27), (1, 30)], 27) := by decide +kernel
theorem dX3_cut_28 : decode cX3_cut 28 = .ok (.iload_n 1, 1) := by decide +kernel
theorem dX3_cut_29 : decode cX3_cut 29 = .ok (.i2b, 1) := by decide +kernel
theorem dX3_cut_30 : decode cX3_cut 30 = .ok (.ireturn, 1) := by decide +kernel
theorem dX3_cut_31 : decode cX3_cut 31 = .ok (.iload_n 1, 1) := by decide +kernel
theorem dX3_cut_32 : decode cX3_cut 32 = .ok (.i2s, 1) := by decide +kernel
theorem dX3_cut_33 : decode cX3_cut 33 = .ok (.ireturn, 1) := by decide +kernel
theorem dX3_cut_34 : decode cX3_cut 34 = .ok (.iload_n 1, 1) := by decide +kernel
theorem dX3_cut_35 : decode cX3_cut 35 = .ok (.ireturn, 1) := by decide +kernel
theorem dX3_readInto_0 : decode cX3_readInto 0 = .ok (.aload_n 0, 1) := by decide +kernel
theorem dX3_readInto_1 : decode cX3_readInto 1 = .ok (.iload_n 2, 1) := by decide +kernel
theorem dX3_readInto_2 : decode cX3_readInto 2 = .ok (.iload_n 3, 1) := by decide +kernel
theorem dX3_readInto_3 : decode cX3_readInto 3 = .ok (.iload 4, 2) := by decide +kernel
theorem dX3_readInto_5 : decode cX3_readInto 5 = .ok (.invokevirtual 44, 3) := by decide +kernel
theorem dX3_readInto_8 : decode cX3_readInto 8 = .ok (.ifCond .eq 27, 3) := by decide +kernel
theorem dX3_readInto_11 : decode cX3_readInto 11 = .ok (.iload 4, 2) := by decide +kernel
theorem dX3_readInto_13 : decode cX3_readInto 13 = .ok (.aload_n 1, 1) := by decide +kernel
theorem dX3_readInto_14 : decode cX3_readInto 14 = .ok (.arraylength, 1) := by decide +kernel
theorem dX3_readInto_15 : decode cX3_readInto 15 = .ok (.if_icmp .gt 20, 3) := by decide +kernel
theorem dX3_readInto_18 : decode cX3_readInto 18 = .ok (.aload_n 0, 1) := by decide +kernel
theorem dX3_readInto_19 : decode cX3_readInto 19 = .ok (.getfield 18, 3) := by decide +kernel
theorem dX3_readInto_22 : decode cX3_readInto 22 = .ok (.iload_n 2, 1) := by decide +kernel
theorem dX3_readInto_23 : decode cX3_readInto 23 = .ok (.bipush 80, 2) := by decide +kernel
theorem dX3_readInto_25 : decode cX3_readInto 25 = .ok (.imul, 1) := by decide +kernel
theorem dX3_readInto_26 : decode cX3_readInto 26 = .ok (.iload_n 3, 1) := by decide +kernel
theorem dX3_readInto_27 : decode cX3_readInto 27 = .ok (.iadd, 1) := by decide +kernel
theorem dX3_readInto_28 : decode cX3_readInto 28 = .ok (.aload_n 1, 1) := by decide +kernel
theorem dX3_readInto_29 : decode cX3_readInto 29 = .ok (.iconst 0, 1) := by decide +kernel
theorem dX3_readInto_30 : decode cX3_readInto 30 = .ok (.iload 4, 2) := by decide +kernel
theorem dX3_readInto_32 : decode cX3_readInto 32 = .ok (.invokestatic 52, 3) := by decide +kernel
theorem dX3_readInto_35 : decode cX3_readInto 35 = .ok (.return_, 1) := by decide +kernel
theorem dX3_move_0 : decode cX3_move 0 = .ok (.aload_n 0, 1) := by decide +kernel
theorem dX3_move_1 : decode cX3_move 1 = .ok (.iload_n 1, 1) := by decide +kernel
theorem dX3_move_2 : decode cX3_move 2 = .ok (.iload_n 2, 1) := by decide +kernel
theorem dX3_move_3 : decode cX3_move 3 = .ok (.iload 5, 2) := by decide +kernel
theorem dX3_move_5 : decode cX3_move 5 = .ok (.invokevirtual 44, 3) := by decide +kernel
theorem dX3_move_8 : decode cX3_move 8 = .ok (.ifCond .eq 41, 3) := by decide +kernel
theorem dX3_move_11 : decode cX3_move 11 = .ok (.aload_n 0, 1) := by decide +kernel
theorem dX3_move_12 : decode cX3_move 12 = .ok (.iload_n 3, 1) := by decide +kernel
theorem dX3_move_13 : decode cX3_move 13 = .ok (.iload 4, 2) := by decide +kernel
theorem dX3_move_15 : decode cX3_move 15 = .ok (.iload 5, 2) := by decide +kernel
theorem dX3_move_17 : decode cX3_move 17 = .ok (.invokevirtual 44, 3) := by decide +kernel
theorem dX3_move_20 : decode cX3_move 20 = .ok (.ifCond .eq 29, 3) := by decide +kernel
theorem dX3_move_23 : decode cX3_move 23 = .ok (.aload_n 0, 1) := by decide +kernel
theorem dX3_move_24 : decode cX3_move 24 = .ok (.getfield 18, 3) := by decide +kernel
theorem dX3_move_27 : decode cX3_move 27 = .ok (.iload_n 1, 1) := by decide +kernel
theorem dX3_move_28 : decode cX3_move 28 = .ok (.bipush 80, 2) := by decide +kernel
theorem dX3_move_30 : decode cX3_move 30 = .ok (.imul, 1) := by decide +kernel
theorem dX3_move_31 : decode cX3_move 31 = .ok (.iload_n 2, 1) := by decide +kernel
theorem dX3_move_32 : decode cX3_move 32 = .ok (.iadd, 1) := by decide +kernel
theorem dX3_move_33 : decode cX3_move 33 = .ok (.aload_n 0, 1) := by decide +kernel
theorem dX3_move_34 : decode cX3_move 34 = .ok (.getfield 18, 3) := by decide +kernel
theorem dX3_move_37 : decode cX3_move 37 = .ok (.iload_n 3, 1) := by decide +kernel
theorem dX3_move_38 : decode cX3_move 38 = .ok (.bipush 80, 2) := by decide +kernel
theorem dX3_move_40 : decode cX3_move 40 = .ok (.imul, 1) := by decide +kernel
theorem dX3_move_41 : decode cX3_move 41 = .ok (.iload 4, 2) := by decide +kernel
theorem dX3_move_43 : decode cX3_move 43 = .ok (.iadd, 1) := by decide +kernel
theorem dX3_move_44 : decode cX3_move 44 = .ok (.iload 5, 2) := by decide +kernel
theorem dX3_move_46 : decode cX3_move 46 = .ok (.invokestatic 52, 3) := by decide +kernel
theorem dX3_move_49 : decode cX3_move 49 = .ok (.return_, 1) := by decide +kernel
theorem dX4_init_0 : decode cX4_init 0 = .ok (.aload_n 0, 1) := by decide +kernel
theorem dX4_init_1 : decode cX4_init 1 = .ok (.invokespecial 1, 3) := by decide +kernel
theorem dX4_init_4 : decode cX4_init 4 = .ok (.aload_n 0, 1) := by decide +kernel
theorem dX4_init_5 : decode cX4_init 5 = .ok (.new 7, 3) := by decide +kernel
theorem dX4_init_8 : decode cX4_init 8 = .ok (.dup, 1) := by decide +kernel
theorem dX4_init_9 : decode cX4_init 9 = .ok (.invokespecial 9, 3) := by decide +kernel
theorem dX4_init_12 : decode cX4_init 12 = .ok (.putfield 10, 3) := by decide +kernel
theorem dX4_init_15 : decode cX4_init 15 = .ok (.return_, 1) := by decide +kernel
theorem dX4_firstFault_0 : decode cX4_firstFault 0 = .ok (.iload_n 2, 1) := by decide +kernel
theorem dX4_firstFault_1 : decode cX4_firstFault 1 = .ok (.aload_n 1, 1) := by decide +kernel
theorem dX4_firstFault_2 : decode cX4_firstFault 2 = .ok (.arraylength, 1) := by decide +kernel
theorem dX4_firstFault_3 : decode cX4_firstFault 3 = .ok (.invokestatic 16, 3) := by decide +kernel
theorem dX4_firstFault_6 : decode cX4_firstFault 6 = .ok (.istore_n 3, 1) := by decide +kernel
theorem dX4_firstFault_7 : decode cX4_firstFault 7 = .ok (.aload_n 0, 1) := by decide +kernel
theorem dX4_firstFault_8 : decode cX4_firstFault 8 = .ok (.getfield 10, 3) := by decide +kernel
theorem dX4_firstFault_11 : decode cX4_firstFault 11 = .ok (.invokevirtual 22, 3) := by decide +kernel
theorem dX4_firstFault_14 : decode cX4_firstFault 14 = .ok (.iload_n 3, 1) := by decide +kernel
theorem dX4_firstFault_15 : decode cX4_firstFault 15 = .ok (.iconst 1, 1) := by decide +kernel
theorem dX4_firstFault_16 : decode cX4_firstFault 16 = .ok (.if_icmp .lt 11, 3) := by decide +kernel
theorem dX4_firstFault_19 : decode cX4_firstFault 19 = .ok (.aload_n 1, 1) := by decide +kernel
theorem dX4_firstFault_20 : decode cX4_firstFault 20 = .ok (.iconst 0, 1) := by decide +kernel
theorem dX4_firstFault_21 : decode cX4_firstFault 21 = .ok (.iaload, 1) := by decide +kernel
theorem dX4_firstFault_22 : decode cX4_firstFault 22 = .ok (.bipush 108, 2) := by decide +kernel
theorem dX4_firstFault_24 : decode cX4_firstFault 24 = .ok (.if_icmp .eq 5, 3) := by decide +kernel
theorem dX4_firstFault_27 : decode cX4_firstFault 27 = .ok (.iconst 0, 1) := by decide +kernel
theorem dX4_firstFault_28 : decode cX4_firstFault 28 = .ok (.ireturn, 1) := by decide +kernel
theorem dX4_firstFault_29 : decode cX4_firstFault 29 = .ok (.iload_n 3, 1) := by decide +kernel
theorem dX4_firstFault_30 : decode cX4_firstFault 30 = .ok (.iconst 2, 1) := by decide +kernel
theorem dX4_firstFault_31 : decode cX4_firstFault 31 = .ok (.if_icmp .lt 19, 3) := by decide +kernel
theorem dX4_firstFault_34 : decode cX4_firstFault 34 = .ok (.aload_n 1, 1) := by decide +kernel
theorem dX4_firstFault_35 : decode cX4_firstFault 35 = .ok (.iconst 1, 1) := by decide +kernel
theorem dX4_firstFault_36 : decode cX4_firstFault 36 = .ok (.iaload, 1) := by decide +kernel
theorem dX4_firstFault_37 : decode cX4_firstFault 37 = .ok (.bipush 50, 2) := by decide +kernel
theorem dX4_firstFault_39 : decode cX4_firstFault 39 = .ok (.if_icmp .lt 11, 3) := by decide +kernel
theorem dX4_firstFault_42 : decode cX4_firstFault 42 = .ok (.aload_n 1, 1) := by decide +kernel
theorem dX4_firstFault_43 : decode cX4_firstFault 43 = .ok (.iconst 1, 1) := by decide +kernel
theorem dX4_firstFault_44 : decode cX4_firstFault 44 = .ok (.iaload, 1) := by decide +kernel
theorem dX4_firstFault_45 : decode cX4_firstFault 45 = .ok (.bipush 55, 2) := by decide +kernel
theorem dX4_firstFault_47 : decode cX4_firstFault 47 = .ok (.if_icmp .le 5, 3) := by decide +kernel
theorem dX4_firstFault_50 : decode cX4_firstFault 50 = .ok (.iconst 1, 1) := by decide +kernel
theorem dX4_firstFault_51 : decode cX4_firstFault 51 = .ok (.ireturn, 1) := by decide +kernel
theorem dX4_firstFault_52 : decode cX4_firstFault 52 = .ok (.iconst 2, 1) := by decide +kernel
theorem dX4_firstFault_53 : decode cX4_firstFault 53 = .ok (.aload_n 1, 1) := by decide +kernel
theorem dX4_firstFault_54 : decode cX4_firstFault 54 = .ok (.iconst 1, 1) := by decide +kernel
theorem dX4_firstFault_55 : decode cX4_firstFault 55 = .ok (.iaload, 1) := by decide +kernel
theorem dX4_firstFault_56 : decode cX4_firstFault 56 = .ok (.iadd, 1) := by decide +kernel
theorem dX4_firstFault_57 : decode cX4_firstFault 57 = .ok (.bipush 48, 2) := by decide +kernel
theorem dX4_firstFault_59 : decode cX4_firstFault 59 = .ok (.isub, 1) := by decide +kernel
theorem dX4_firstFault_60 : decode cX4_firstFault 60 = .ok (.istore 4, 2) := by decide +kernel
theorem dX4_firstFault_62 : decode cX4_firstFault 62 = .ok (.iconst 2, 1) := by decide +kernel
theorem dX4_firstFault_63 : decode cX4_firstFault 63 = .ok (.istore 5, 2) := by decide +kernel
theorem dX4_firstFault_65 : decode cX4_firstFault 65 = .ok (.iload 5, 2) := by decide +kernel
theorem dX4_firstFault_67 : decode cX4_firstFault 67 = .ok (.iload 4, 2) := by decide +kernel
theorem dX4_firstFault_69 : decode cX4_firstFault 69 = .ok (.if_icmp .ge 50, 3) := by decide +kernel
theorem dX4_firstFault_72 : decode cX4_firstFault 72 = .ok (.iload 5, 2) := by decide +kernel
theorem dX4_firstFault_74 : decode cX4_firstFault 74 = .ok (.iload_n 3, 1) := by decide +kernel
theorem dX4_firstFault_75 : decode cX4_firstFault 75 = .ok (.if_icmp .ge 21, 3) := by decide +kernel
theorem dX4_firstFault_78 : decode cX4_firstFault 78 = .ok (.aload_n 1, 1) := by decide +kernel
theorem dX4_firstFault_79 : decode cX4_firstFault 79 = .ok (.iload 5, 2) := by decide +kernel
theorem dX4_firstFault_81 : decode cX4_firstFault 81 = .ok (.iaload, 1) := by decide +kernel
theorem dX4_firstFault_82 : decode cX4_firstFault 82 = .ok (.bipush 49, 2) := by decide +kernel
theorem dX4_firstFault_84 : decode cX4_firstFault 84 = .ok (.if_icmp .lt 12, 3) := by decide +kernel
theorem dX4_firstFault_87 : decode cX4_firstFault 87 = .ok (.aload_n 1, 1) := by decide +kernel
theorem dX4_firstFault_88 : decode cX4_firstFault 88 = .ok (.iload 5, 2) := by decide +kernel
theorem dX4_firstFault_90 : decode cX4_firstFault 90 = .ok (.iaload, 1) := by decide +kernel
theorem dX4_firstFault_91 : decode cX4_firstFault 91 = .ok (.bipush 57, 2) := by decide +kernel
theorem dX4_firstFault_93 : decode cX4_firstFault 93 = .ok (.if_icmp .le 6, 3) := by decide +kernel
theorem dX4_firstFault_96 : decode cX4_firstFault 96 = .ok (.iload 5, 2) := by decide +kernel
theorem dX4_firstFault_98 : decode cX4_firstFault 98 = .ok (.ireturn, 1) := by decide +kernel
theorem dX4_firstFault_99 : decode cX4_firstFault 99 = .ok (.aload_n 0, 1) := by decide +kernel
theorem dX4_firstFault_100 : decode cX4_firstFault 100 = .ok (.getfield 10, 3) := by decide +kernel
theorem dX4_firstFault_103 : decode cX4_firstFault 103 = .ok (.aload_n 1, 1) := by decide +kernel
theorem dX4_firstFault_104 : decode cX4_firstFault 104 = .ok (.iload 5, 2) := by decide +kernel
theorem dX4_firstFault_106 : decode cX4_firstFault 106 = .ok (.iaload, 1) := by decide +kernel
theorem dX4_firstFault_107 : decode cX4_firstFault 107 = .ok (.bipush 48, 2) := by decide +kernel
theorem dX4_firstFault_109 : decode cX4_firstFault 109 = .ok (.isub, 1) := by decide +kernel
theorem dX4_firstFault_110 : decode cX4_firstFault 110 = .ok (.invokevirtual 25, 3) := by decide +kernel
theorem dX4_firstFault_113 : decode cX4_firstFault 113 = .ok (.iinc 5 1, 3) := by decide +kernel
theorem dX4_firstFault_116 : decode cX4_firstFault 116 = .ok (.goto (-51), 3) := by decide +kernel
theorem dX4_firstFault_119 : decode cX4_firstFault 119 = .ok (.aload_n 0, 1) := by decide +kernel
theorem dX4_firstFault_120 : decode cX4_firstFault 120 = .ok (.aload_n 1, 1) := by decide +kernel
theorem dX4_firstFault_121 : decode cX4_firstFault 121 = .ok (.iload 4, 2) := by decide +kernel
theorem dX4_firstFault_123 : decode cX4_firstFault 123 = .ok (.iload_n 3, 1) := by decide +kernel
theorem dX4_firstFault_124 : decode cX4_firstFault 124 = .ok (.invokevirtual 29, 3) := by decide +kernel
theorem dX4_firstFault_127 : decode cX4_firstFault 127 = .ok (.ireturn, 1) := by decide +kernel
theorem dX4_firstFaultOfDoors_0 : decode cX4_firstFaultOfDoors 0 = .ok (.iload_n 2, 1) := by decide +kernel
theorem dX4_firstFaultOfDoors_1 : decode cX4_firstFaultOfDoors 1 = .ok (.istore 4, 2) := by decide +kernel
theorem dX4_firstFaultOfDoors_3 : decode cX4_firstFaultOfDoors 3 = .ok (.iload 4, 2) := by decide +kernel
theorem dX4_firstFaultOfDoors_5 : decode cX4_firstFaultOfDoors 5 = .ok (.iload_n 3, 1) := by decide +kernel
theorem dX4_firstFaultOfDoors_6 : decode cX4_firstFaultOfDoors 6 = .ok (.if_icmp .ge 23, 3) := by decide +kernel
theorem dX4_firstFaultOfDoors_9 : decode cX4_firstFaultOfDoors 9 = .ok (.aload_n 0, 1) := by decide +kernel
theorem dX4_firstFaultOfDoors_10 : decode cX4_firstFaultOfDoors 10 = .ok (.aload_n 1, 1) := by decide +kernel
theorem dX4_firstFaultOfDoors_11 : decode cX4_firstFaultOfDoors 11 = .ok (.iload 4, 2) := by decide +kernel
theorem dX4_firstFaultOfDoors_13 : decode cX4_firstFaultOfDoors 13 = .ok (.iaload, 1) := by decide +kernel
theorem dX4_firstFaultOfDoors_14 : decode cX4_firstFaultOfDoors 14 = .ok (.invokevirtual 33, 3) := by decide +kernel
theorem dX4_firstFaultOfDoors_17 : decode cX4_firstFaultOfDoors 17 = .ok (.ifCond .ne 6, 3) := by decide +kernel
theorem dX4_firstFaultOfDoors_20 : decode cX4_firstFaultOfDoors 20 = .ok (.iload 4, 2) := by decide +kernel
theorem dX4_firstFaultOfDoors_22 : decode cX4_firstFaultOfDoors 22 = .ok (.ireturn, 1) := by decide +kernel
theorem dX4_firstFaultOfDoors_23 : decode cX4_firstFaultOfDoors 23 = .ok (.iinc 4 1, 3) := by decide +kernel
theorem dX4_firstFaultOfDoors_26 : decode cX4_firstFaultOfDoors 26 = .ok (.goto (-23), 3) := by decide +kernel
theorem dX4_firstFaultOfDoors_29 : decode cX4_firstFaultOfDoors 29 = .ok (.aload_n 0, 1) := by decide +kernel
theorem dX4_firstFaultOfDoors_30 : decode cX4_firstFaultOfDoors 30 = .ok (.getfield 10, 3) := by decide +kernel
theorem dX4_firstFaultOfDoors_33 : decode cX4_firstFaultOfDoors 33 = .ok (.getfield 37, 3) := by decide +kernel
theorem dX4_firstFaultOfDoors_36 : decode cX4_firstFaultOfDoors 36 = .ok (.ifCond .le 7, 3) := by decide +kernel
theorem dX4_firstFaultOfDoors_39 : decode cX4_firstFaultOfDoors 39 = .ok (.iconst (-1), 1) := by decide +kernel
theorem dX4_firstFaultOfDoors_40 : decode cX4_firstFaultOfDoors 40 = .ok (.goto 4, 3) := by decide +kernel
theorem dX4_firstFaultOfDoors_43 : decode cX4_firstFaultOfDoors 43 = .ok (.iload_n 3, 1) := by decide +kernel
theorem dX4_firstFaultOfDoors_44 : decode cX4_firstFaultOfDoors 44 = .ok (.ireturn, 1) := by decide +kernel
theorem dX4_goesOn_0 : decode cX4_goesOn 0 = .ok (.iload_n 1, 1) := by decide +kernel
theorem dX4_goesOn_1 : decode cX4_goesOn 1 = .ok (.lookupswitch 43 #[(44, 35), (59, 27)], 27) := by decide +kernel
theorem dX4_goesOn_28 : decode cX4_goesOn 28 = .ok (.aload_n 0, 1) := by decide +kernel
theorem dX4_goesOn_29 : decode cX4_goesOn 29 = .ok (.getfield 10, 3) := by decide +kernel
theorem dX4_goesOn_32 : decode cX4_goesOn 32 = .ok (.invokevirtual 41, 3) := by decide +kernel
theorem dX4_goesOn_35 : decode cX4_goesOn 35 = .ok (.ireturn, 1) := by decide +kernel
theorem dX4_goesOn_36 : decode cX4_goesOn 36 = .ok (.aload_n 0, 1) := by decide +kernel
theorem dX4_goesOn_37 : decode cX4_goesOn 37 = .ok (.getfield 10, 3) := by decide +kernel
theorem dX4_goesOn_40 : decode cX4_goesOn 40 = .ok (.invokevirtual 45, 3) := by decide +kernel
theorem dX4_goesOn_43 : decode cX4_goesOn 43 = .ok (.ireturn, 1) := by decide +kernel
theorem dX4_goesOn_44 : decode cX4_goesOn 44 = .ok (.aload_n 0, 1) := by decide +kernel
theorem dX4_goesOn_45 : decode cX4_goesOn 45 = .ok (.getfield 10, 3) := by decide +kernel
theorem dX4_goesOn_48 : decode cX4_goesOn 48 = .ok (.iload_n 1, 1) := by decide +kernel
theorem dX4_goesOn_49 : decode cX4_goesOn 49 = .ok (.bipush 48, 2) := by decide +kernel
theorem dX4_goesOn_51 : decode cX4_goesOn 51 = .ok (.isub, 1) := by decide +kernel
theorem dX4_goesOn_52 : decode cX4_goesOn 52 = .ok (.invokevirtual 48, 3) := by decide +kernel
theorem dX4_goesOn_55 : decode cX4_goesOn 55 = .ok (.ireturn, 1) := by decide +kernel
theorem dX5_init_0 : decode cX5_init 0 = .ok (.aload_n 0, 1) := by decide +kernel
theorem dX5_init_1 : decode cX5_init 1 = .ok (.invokespecial 3, 3) := by decide +kernel
theorem dX5_init_4 : decode cX5_init 4 = .ok (.aload_n 0, 1) := by decide +kernel
theorem dX5_init_5 : decode cX5_init 5 = .ok (.iconst 4, 1) := by decide +kernel
theorem dX5_init_6 : decode cX5_init 6 = .ok (.newarray .int, 2) := by decide +kernel
theorem dX5_init_8 : decode cX5_init 8 = .ok (.putfield 11, 3) := by decide +kernel
theorem dX5_init_11 : decode cX5_init 11 = .ok (.aload_n 0, 1) := by decide +kernel
theorem dX5_init_12 : decode cX5_init 12 = .ok (.iconst 4, 1) := by decide +kernel
theorem dX5_init_13 : decode cX5_init 13 = .ok (.newarray .int, 2) := by decide +kernel
theorem dX5_init_15 : decode cX5_init 15 = .ok (.putfield 15, 3) := by decide +kernel
theorem dX5_init_18 : decode cX5_init 18 = .ok (.return_, 1) := by decide +kernel
theorem dX5_isFull_0 : decode cX5_isFull 0 = .ok (.aload_n 0, 1) := by decide +kernel
theorem dX5_isFull_1 : decode cX5_isFull 1 = .ok (.getfield 18, 3) := by decide +kernel
theorem dX5_isFull_4 : decode cX5_isFull 4 = .ok (.iconst 4, 1) := by decide +kernel
theorem dX5_isFull_5 : decode cX5_isFull 5 = .ok (.if_icmp .lt 7, 3) := by decide +kernel
theorem dX5_isFull_8 : decode cX5_isFull 8 = .ok (.iconst 1, 1) := by decide +kernel
theorem dX5_isFull_9 : decode cX5_isFull 9 = .ok (.goto 4, 3) := by decide +kernel
theorem dX5_isFull_12 : decode cX5_isFull 12 = .ok (.iconst 0, 1) := by decide +kernel
theorem dX5_isFull_13 : decode cX5_isFull 13 = .ok (.ireturn, 1) := by decide +kernel
theorem dX5_join_0 : decode cX5_join 0 = .ok (.aload_n 0, 1) := by decide +kernel
theorem dX5_join_1 : decode cX5_join 1 = .ok (.invokevirtual 22, 3) := by decide +kernel
theorem dX5_join_4 : decode cX5_join 4 = .ok (.ifCond .eq 6, 3) := by decide +kernel
theorem dX5_join_7 : decode cX5_join 7 = .ok (.bipush (-4), 2) := by decide +kernel
theorem dX5_join_9 : decode cX5_join 9 = .ok (.ireturn, 1) := by decide +kernel
theorem dX5_join_10 : decode cX5_join 10 = .ok (.aload_n 0, 1) := by decide +kernel
theorem dX5_join_11 : decode cX5_join 11 = .ok (.getfield 11, 3) := by decide +kernel
theorem dX5_join_14 : decode cX5_join 14 = .ok (.aload_n 0, 1) := by decide +kernel
theorem dX5_join_15 : decode cX5_join 15 = .ok (.getfield 18, 3) := by decide +kernel
theorem dX5_join_18 : decode cX5_join 18 = .ok (.iload_n 1, 1) := by decide +kernel
theorem dX5_join_19 : decode cX5_join 19 = .ok (.iastore, 1) := by decide +kernel
theorem dX5_join_20 : decode cX5_join 20 = .ok (.aload_n 0, 1) := by decide +kernel
theorem dX5_join_21 : decode cX5_join 21 = .ok (.getfield 15, 3) := by decide +kernel
theorem dX5_join_24 : decode cX5_join 24 = .ok (.aload_n 0, 1) := by decide +kernel
theorem dX5_join_25 : decode cX5_join 25 = .ok (.getfield 18, 3) := by decide +kernel
theorem dX5_join_28 : decode cX5_join 28 = .ok (.iload_n 2, 1) := by decide +kernel
theorem dX5_join_29 : decode cX5_join 29 = .ok (.iastore, 1) := by decide +kernel
theorem dX5_join_30 : decode cX5_join 30 = .ok (.aload_n 0, 1) := by decide +kernel
theorem dX5_join_31 : decode cX5_join 31 = .ok (.dup, 1) := by decide +kernel
theorem dX5_join_32 : decode cX5_join 32 = .ok (.getfield 18, 3) := by decide +kernel
theorem dX5_join_35 : decode cX5_join 35 = .ok (.iconst 1, 1) := by decide +kernel
theorem dX5_join_36 : decode cX5_join 36 = .ok (.iadd, 1) := by decide +kernel
theorem dX5_join_37 : decode cX5_join 37 = .ok (.putfield 18, 3) := by decide +kernel
theorem dX5_join_40 : decode cX5_join 40 = .ok (.aload_n 0, 1) := by decide +kernel
theorem dX5_join_41 : decode cX5_join 41 = .ok (.getfield 18, 3) := by decide +kernel
theorem dX5_join_44 : decode cX5_join 44 = .ok (.iconst 1, 1) := by decide +kernel
theorem dX5_join_45 : decode cX5_join 45 = .ok (.isub, 1) := by decide +kernel
theorem dX5_join_46 : decode cX5_join 46 = .ok (.ireturn, 1) := by decide +kernel
theorem dX5_includes_0 : decode cX5_includes 0 = .ok (.iload_n 1, 1) := by decide +kernel
theorem dX5_includes_1 : decode cX5_includes 1 = .ok (.ifCond .lt 20, 3) := by decide +kernel
theorem dX5_includes_4 : decode cX5_includes 4 = .ok (.iload_n 1, 1) := by decide +kernel
theorem dX5_includes_5 : decode cX5_includes 5 = .ok (.aload_n 0, 1) := by decide +kernel
theorem dX5_includes_6 : decode cX5_includes 6 = .ok (.getfield 18, 3) := by decide +kernel
theorem dX5_includes_9 : decode cX5_includes 9 = .ok (.if_icmp .ge 12, 3) := by decide +kernel
theorem dX5_includes_12 : decode cX5_includes 12 = .ok (.iload_n 1, 1) := by decide +kernel
theorem dX5_includes_13 : decode cX5_includes 13 = .ok (.iconst 4, 1) := by decide +kernel
theorem dX5_includes_14 : decode cX5_includes 14 = .ok (.if_icmp .ge 7, 3) := by decide +kernel
theorem dX5_includes_17 : decode cX5_includes 17 = .ok (.iconst 1, 1) := by decide +kernel
theorem dX5_includes_18 : decode cX5_includes 18 = .ok (.goto 4, 3) := by decide +kernel
theorem dX5_includes_21 : decode cX5_includes 21 = .ok (.iconst 0, 1) := by decide +kernel
theorem dX5_includes_22 : decode cX5_includes 22 = .ok (.ireturn, 1) := by decide +kernel
theorem dX5_kindOf_0 : decode cX5_kindOf 0 = .ok (.aload_n 0, 1) := by decide +kernel
theorem dX5_kindOf_1 : decode cX5_kindOf 1 = .ok (.iload_n 1, 1) := by decide +kernel
theorem dX5_kindOf_2 : decode cX5_kindOf 2 = .ok (.invokevirtual 26, 3) := by decide +kernel
theorem dX5_kindOf_5 : decode cX5_kindOf 5 = .ok (.ifCond .eq 12, 3) := by decide +kernel
theorem dX5_kindOf_8 : decode cX5_kindOf 8 = .ok (.aload_n 0, 1) := by decide +kernel
theorem dX5_kindOf_9 : decode cX5_kindOf 9 = .ok (.getfield 11, 3) := by decide +kernel
theorem dX5_kindOf_12 : decode cX5_kindOf 12 = .ok (.iload_n 1, 1) := by decide +kernel
theorem dX5_kindOf_13 : decode cX5_kindOf 13 = .ok (.iaload, 1) := by decide +kernel
theorem dX5_kindOf_14 : decode cX5_kindOf 14 = .ok (.goto 4, 3) := by decide +kernel
theorem dX5_kindOf_17 : decode cX5_kindOf 17 = .ok (.iconst 0, 1) := by decide +kernel
theorem dX5_kindOf_18 : decode cX5_kindOf 18 = .ok (.ireturn, 1) := by decide +kernel
theorem dX5_weightOf_0 : decode cX5_weightOf 0 = .ok (.aload_n 0, 1) := by decide +kernel
theorem dX5_weightOf_1 : decode cX5_weightOf 1 = .ok (.iload_n 1, 1) := by decide +kernel
theorem dX5_weightOf_2 : decode cX5_weightOf 2 = .ok (.invokevirtual 26, 3) := by decide +kernel
theorem dX5_weightOf_5 : decode cX5_weightOf 5 = .ok (.ifCond .eq 12, 3) := by decide +kernel
theorem dX5_weightOf_8 : decode cX5_weightOf 8 = .ok (.aload_n 0, 1) := by decide +kernel
theorem dX5_weightOf_9 : decode cX5_weightOf 9 = .ok (.getfield 15, 3) := by decide +kernel
theorem dX5_weightOf_12 : decode cX5_weightOf 12 = .ok (.iload_n 1, 1) := by decide +kernel
theorem dX5_weightOf_13 : decode cX5_weightOf 13 = .ok (.iaload, 1) := by decide +kernel
theorem dX5_weightOf_14 : decode cX5_weightOf 14 = .ok (.goto 4, 3) := by decide +kernel
theorem dX5_weightOf_17 : decode cX5_weightOf 17 = .ok (.iconst 0, 1) := by decide +kernel
theorem dX5_weightOf_18 : decode cX5_weightOf 18 = .ok (.ireturn, 1) := by decide +kernel
theorem dX5_isOfKind_0 : decode cX5_isOfKind 0 = .ok (.aload_n 0, 1) := by decide +kernel
theorem dX5_isOfKind_1 : decode cX5_isOfKind 1 = .ok (.iload_n 1, 1) := by decide +kernel
theorem dX5_isOfKind_2 : decode cX5_isOfKind 2 = .ok (.invokevirtual 30, 3) := by decide +kernel
theorem dX5_isOfKind_5 : decode cX5_isOfKind 5 = .ok (.iload_n 2, 1) := by decide +kernel
theorem dX5_isOfKind_6 : decode cX5_isOfKind 6 = .ok (.if_icmp .lt 7, 3) := by decide +kernel
theorem dX5_isOfKind_9 : decode cX5_isOfKind 9 = .ok (.iconst 1, 1) := by decide +kernel
theorem dX5_isOfKind_10 : decode cX5_isOfKind 10 = .ok (.goto 4, 3) := by decide +kernel
theorem dX5_isOfKind_13 : decode cX5_isOfKind 13 = .ok (.iconst 0, 1) := by decide +kernel
theorem dX5_isOfKind_14 : decode cX5_isOfKind 14 = .ok (.ireturn, 1) := by decide +kernel
theorem dX5_pull_0 : decode cX5_pull 0 = .ok (.iload_n 0, 1) := by decide +kernel
theorem dX5_pull_1 : decode cX5_pull 1 = .ok (.iconst 2, 1) := by decide +kernel
theorem dX5_pull_2 : decode cX5_pull 2 = .ok (.if_icmp .ne 9, 3) := by decide +kernel
theorem dX5_pull_5 : decode cX5_pull 5 = .ok (.iload_n 1, 1) := by decide +kernel
theorem dX5_pull_6 : decode cX5_pull 6 = .ok (.iconst 2, 1) := by decide +kernel
theorem dX5_pull_7 : decode cX5_pull 7 = .ok (.idiv, 1) := by decide +kernel
theorem dX5_pull_8 : decode cX5_pull 8 = .ok (.goto 4, 3) := by decide +kernel
theorem dX5_pull_11 : decode cX5_pull 11 = .ok (.iload_n 1, 1) := by decide +kernel
theorem dX5_pull_12 : decode cX5_pull 12 = .ok (.ireturn, 1) := by decide +kernel
theorem dX6_init_0 : decode cX6_init 0 = .ok (.aload_n 0, 1) := by decide +kernel
theorem dX6_init_1 : decode cX6_init 1 = .ok (.invokespecial 3, 3) := by decide +kernel
theorem dX6_init_4 : decode cX6_init 4 = .ok (.aload_n 0, 1) := by decide +kernel
theorem dX6_init_5 : decode cX6_init 5 = .ok (.new 9, 3) := by decide +kernel
theorem dX6_init_8 : decode cX6_init 8 = .ok (.dup, 1) := by decide +kernel
theorem dX6_init_9 : decode cX6_init 9 = .ok (.invokespecial 11, 3) := by decide +kernel
theorem dX6_init_12 : decode cX6_init 12 = .ok (.putfield 12, 3) := by decide +kernel
theorem dX6_init_15 : decode cX6_init 15 = .ok (.aload_n 0, 1) := by decide +kernel
theorem dX6_init_16 : decode cX6_init 16 = .ok (.new 18, 3) := by decide +kernel
theorem dX6_init_19 : decode cX6_init 19 = .ok (.dup, 1) := by decide +kernel
theorem dX6_init_20 : decode cX6_init 20 = .ok (.invokespecial 20, 3) := by decide +kernel
theorem dX6_init_23 : decode cX6_init 23 = .ok (.putfield 21, 3) := by decide +kernel
theorem dX6_init_26 : decode cX6_init 26 = .ok (.aload_n 0, 1) := by decide +kernel
theorem dX6_init_27 : decode cX6_init 27 = .ok (.new 25, 3) := by decide +kernel
theorem dX6_init_30 : decode cX6_init 30 = .ok (.dup, 1) := by decide +kernel
theorem dX6_init_31 : decode cX6_init 31 = .ok (.invokespecial 27, 3) := by decide +kernel
theorem dX6_init_34 : decode cX6_init 34 = .ok (.putfield 28, 3) := by decide +kernel
theorem dX6_init_37 : decode cX6_init 37 = .ok (.aload_n 0, 1) := by decide +kernel
theorem dX6_init_38 : decode cX6_init 38 = .ok (.aload_n 0, 1) := by decide +kernel
theorem dX6_init_39 : decode cX6_init 39 = .ok (.getfield 28, 3) := by decide +kernel
theorem dX6_init_42 : decode cX6_init 42 = .ok (.getfield 32, 3) := by decide +kernel
theorem dX6_init_45 : decode cX6_init 45 = .ok (.putfield 36, 3) := by decide +kernel
theorem dX6_init_48 : decode cX6_init 48 = .ok (.aload_n 0, 1) := by decide +kernel
theorem dX6_init_49 : decode cX6_init 49 = .ok (.aload_n 0, 1) := by decide +kernel
theorem dX6_init_50 : decode cX6_init 50 = .ok (.getfield 28, 3) := by decide +kernel
theorem dX6_init_53 : decode cX6_init 53 = .ok (.getfield 37, 3) := by decide +kernel
theorem dX6_init_56 : decode cX6_init 56 = .ok (.putfield 41, 3) := by decide +kernel
theorem dX6_init_59 : decode cX6_init 59 = .ok (.aload_n 0, 1) := by decide +kernel
theorem dX6_init_60 : decode cX6_init 60 = .ok (.new 42, 3) := by decide +kernel
theorem dX6_init_63 : decode cX6_init 63 = .ok (.dup, 1) := by decide +kernel
theorem dX6_init_64 : decode cX6_init 64 = .ok (.invokespecial 44, 3) := by decide +kernel
theorem dX6_init_67 : decode cX6_init 67 = .ok (.putfield 45, 3) := by decide +kernel
theorem dX6_init_70 : decode cX6_init 70 = .ok (.aload_n 0, 1) := by decide +kernel
theorem dX6_init_71 : decode cX6_init 71 = .ok (.bipush 80, 2) := by decide +kernel
theorem dX6_init_73 : decode cX6_init 73 = .ok (.newarray .int, 2) := by decide +kernel
theorem dX6_init_75 : decode cX6_init 75 = .ok (.putfield 49, 3) := by decide +kernel
theorem dX6_init_78 : decode cX6_init 78 = .ok (.return_, 1) := by decide +kernel
theorem dX6_lock_0 : decode cX6_lock 0 = .ok (.aload_n 0, 1) := by decide +kernel
theorem dX6_lock_1 : decode cX6_lock 1 = .ok (.iload_n 1, 1) := by decide +kernel
theorem dX6_lock_2 : decode cX6_lock 2 = .ok (.iload_n 2, 1) := by decide +kernel
theorem dX6_lock_3 : decode cX6_lock 3 = .ok (.iconst 0, 1) := by decide +kernel
theorem dX6_lock_4 : decode cX6_lock 4 = .ok (.iload_n 3, 1) := by decide +kernel
theorem dX6_lock_5 : decode cX6_lock 5 = .ok (.iload 4, 2) := by decide +kernel
theorem dX6_lock_7 : decode cX6_lock 7 = .ok (.invokevirtual 53, 3) := by decide +kernel
theorem dX6_lock_10 : decode cX6_lock 10 = .ok (.istore 5, 2) := by decide +kernel
theorem dX6_lock_12 : decode cX6_lock 12 = .ok (.iload 5, 2) := by decide +kernel
theorem dX6_lock_14 : decode cX6_lock 14 = .ok (.ifCond .eq 6, 3) := by decide +kernel
theorem dX6_lock_17 : decode cX6_lock 17 = .ok (.iload 5, 2) := by decide +kernel
theorem dX6_lock_19 : decode cX6_lock 19 = .ok (.ireturn, 1) := by decide +kernel
theorem dX6_lock_20 : decode cX6_lock 20 = .ok (.aload_n 0, 1) := by decide +kernel
theorem dX6_lock_21 : decode cX6_lock 21 = .ok (.getfield 21, 3) := by decide +kernel
theorem dX6_lock_24 : decode cX6_lock 24 = .ok (.aload_n 0, 1) := by decide +kernel
theorem dX6_lock_25 : decode cX6_lock 25 = .ok (.getfield 49, 3) := by decide +kernel
theorem dX6_lock_28 : decode cX6_lock 28 = .ok (.iload 4, 2) := by decide +kernel
theorem dX6_lock_30 : decode cX6_lock 30 = .ok (.invokevirtual 57, 3) := by decide +kernel
theorem dX6_lock_33 : decode cX6_lock 33 = .ok (.istore 6, 2) := by decide +kernel
theorem dX6_lock_35 : decode cX6_lock 35 = .ok (.iload 6, 2) := by decide +kernel
theorem dX6_lock_37 : decode cX6_lock 37 = .ok (.iconst (-1), 1) := by decide +kernel
theorem dX6_lock_38 : decode cX6_lock 38 = .ok (.if_icmp .eq 9, 3) := by decide +kernel
theorem dX6_lock_41 : decode cX6_lock 41 = .ok (.bipush (-100), 2) := by decide +kernel
theorem dX6_lock_43 : decode cX6_lock 43 = .ok (.iload 6, 2) := by decide +kernel
theorem dX6_lock_45 : decode cX6_lock 45 = .ok (.isub, 1) := by decide +kernel
theorem dX6_lock_46 : decode cX6_lock 46 = .ok (.ireturn, 1) := by decide +kernel
theorem dX6_lock_47 : decode cX6_lock 47 = .ok (.aload_n 0, 1) := by decide +kernel
theorem dX6_lock_48 : decode cX6_lock 48 = .ok (.getfield 36, 3) := by decide +kernel
theorem dX6_lock_51 : decode cX6_lock 51 = .ok (.aload_n 0, 1) := by decide +kernel
theorem dX6_lock_52 : decode cX6_lock 52 = .ok (.getfield 21, 3) := by decide +kernel
theorem dX6_lock_55 : decode cX6_lock 55 = .ok (.getfield 61, 3) := by decide +kernel
theorem dX6_lock_58 : decode cX6_lock 58 = .ok (.invokevirtual 64, 3) := by decide +kernel
theorem dX6_lock_61 : decode cX6_lock 61 = .ok (.aload_n 0, 1) := by decide +kernel
theorem dX6_lock_62 : decode cX6_lock 62 = .ok (.getfield 41, 3) := by decide +kernel
theorem dX6_lock_65 : decode cX6_lock 65 = .ok (.iconst 0, 1) := by decide +kernel
theorem dX6_lock_66 : decode cX6_lock 66 = .ok (.putfield 70, 3) := by decide +kernel
theorem dX6_lock_69 : decode cX6_lock 69 = .ok (.aload_n 0, 1) := by decide +kernel
theorem dX6_lock_70 : decode cX6_lock 70 = .ok (.getfield 45, 3) := by decide +kernel
theorem dX6_lock_73 : decode cX6_lock 73 = .ok (.iconst 0, 1) := by decide +kernel
theorem dX6_lock_74 : decode cX6_lock 74 = .ok (.putfield 76, 3) := by decide +kernel
theorem dX6_lock_77 : decode cX6_lock 77 = .ok (.aload_n 0, 1) := by decide +kernel
theorem dX6_lock_78 : decode cX6_lock 78 = .ok (.getfield 36, 3) := by decide +kernel
theorem dX6_lock_81 : decode cX6_lock 81 = .ok (.getfield 77, 3) := by decide +kernel
theorem dX6_lock_84 : decode cX6_lock 84 = .ok (.ireturn, 1) := by decide +kernel
theorem dX6_board_0 : decode cX6_board 0 = .ok (.aload_n 0, 1) := by decide +kernel
theorem dX6_board_1 : decode cX6_board 1 = .ok (.getfield 36, 3) := by decide +kernel
theorem dX6_board_4 : decode cX6_board 4 = .ok (.iload_n 1, 1) := by decide +kernel
theorem dX6_board_5 : decode cX6_board 5 = .ok (.invokevirtual 80, 3) := by decide +kernel
theorem dX6_board_8 : decode cX6_board 8 = .ok (.ifCond .eq 15, 3) := by decide +kernel
theorem dX6_board_11 : decode cX6_board 11 = .ok (.aload_n 0, 1) := by decide +kernel
theorem dX6_board_12 : decode cX6_board 12 = .ok (.getfield 36, 3) := by decide +kernel
theorem dX6_board_15 : decode cX6_board 15 = .ok (.getfield 84, 3) := by decide +kernel
theorem dX6_board_18 : decode cX6_board 18 = .ok (.iload_n 1, 1) := by decide +kernel
theorem dX6_board_19 : decode cX6_board 19 = .ok (.iaload, 1) := by decide +kernel
theorem dX6_board_20 : decode cX6_board 20 = .ok (.goto 4, 3) := by decide +kernel
theorem dX6_board_23 : decode cX6_board 23 = .ok (.iconst (-1), 1) := by decide +kernel
theorem dX6_board_24 : decode cX6_board 24 = .ok (.ireturn, 1) := by decide +kernel
theorem dX6_beat_0 : decode cX6_beat 0 = .ok (.iload_n 2, 1) := by decide +kernel
theorem dX6_beat_1 : decode cX6_beat 1 = .ok (.iconst (-1), 1) := by decide +kernel
theorem dX6_beat_2 : decode cX6_beat 2 = .ok (.if_icmp .ne 23, 3) := by decide +kernel
theorem dX6_beat_5 : decode cX6_beat 5 = .ok (.aload_n 0, 1) := by decide +kernel
theorem dX6_beat_6 : decode cX6_beat 6 = .ok (.getfield 36, 3) := by decide +kernel
theorem dX6_beat_9 : decode cX6_beat 9 = .ok (.iload_n 1, 1) := by decide +kernel
theorem dX6_beat_10 : decode cX6_beat 10 = .ok (.invokevirtual 87, 3) := by decide +kernel
theorem dX6_beat_13 : decode cX6_beat 13 = .ok (.ifCond .eq 12, 3) := by decide +kernel
theorem dX6_beat_16 : decode cX6_beat 16 = .ok (.aload_n 0, 1) := by decide +kernel
theorem dX6_beat_17 : decode cX6_beat 17 = .ok (.getfield 36, 3) := by decide +kernel
theorem dX6_beat_20 : decode cX6_beat 20 = .ok (.iload_n 1, 1) := by decide +kernel
theorem dX6_beat_21 : decode cX6_beat 21 = .ok (.invokevirtual 90, 3) := by decide +kernel
theorem dX6_beat_24 : decode cX6_beat 24 = .ok (.ireturn, 1) := by decide +kernel
theorem dX6_beat_25 : decode cX6_beat 25 = .ok (.aload_n 0, 1) := by decide +kernel
theorem dX6_beat_26 : decode cX6_beat 26 = .ok (.getfield 36, 3) := by decide +kernel
theorem dX6_beat_29 : decode cX6_beat 29 = .ok (.iload_n 1, 1) := by decide +kernel
theorem dX6_beat_30 : decode cX6_beat 30 = .ok (.iload_n 2, 1) := by decide +kernel
theorem dX6_beat_31 : decode cX6_beat 31 = .ok (.invokevirtual 94, 3) := by decide +kernel
theorem dX6_beat_34 : decode cX6_beat 34 = .ok (.ifCond .eq 15, 3) := by decide +kernel
theorem dX6_beat_37 : decode cX6_beat 37 = .ok (.aload_n 0, 1) := by decide +kernel
theorem dX6_beat_38 : decode cX6_beat 38 = .ok (.getfield 36, 3) := by decide +kernel
theorem dX6_beat_41 : decode cX6_beat 41 = .ok (.iload_n 1, 1) := by decide +kernel
theorem dX6_beat_42 : decode cX6_beat 42 = .ok (.iload_n 2, 1) := by decide +kernel
theorem dX6_beat_43 : decode cX6_beat 43 = .ok (.invokevirtual 98, 3) := by decide +kernel
theorem dX6_beat_46 : decode cX6_beat 46 = .ok (.goto 4, 3) := by decide +kernel
theorem dX6_beat_49 : decode cX6_beat 49 = .ok (.iconst (-1), 1) := by decide +kernel
theorem dX6_beat_50 : decode cX6_beat 50 = .ok (.ireturn, 1) := by decide +kernel
theorem dX6_change_0 : decode cX6_change 0 = .ok (.aload_n 0, 1) := by decide +kernel
theorem dX6_change_1 : decode cX6_change 1 = .ok (.getfield 36, 3) := by decide +kernel
theorem dX6_change_4 : decode cX6_change 4 = .ok (.iload_n 1, 1) := by decide +kernel
theorem dX6_change_5 : decode cX6_change 5 = .ok (.iload_n 2, 1) := by decide +kernel
theorem dX6_change_6 : decode cX6_change 6 = .ok (.invokevirtual 94, 3) := by decide +kernel
theorem dX6_change_9 : decode cX6_change 9 = .ok (.ifCond .ne 5, 3) := by decide +kernel
theorem dX6_change_12 : decode cX6_change 12 = .ok (.iconst (-1), 1) := by decide +kernel
theorem dX6_change_13 : decode cX6_change 13 = .ok (.ireturn, 1) := by decide +kernel
theorem dX6_change_14 : decode cX6_change 14 = .ok (.iload_n 3, 1) := by decide +kernel
theorem dX6_change_15 : decode cX6_change 15 = .ok (.aload_n 0, 1) := by decide +kernel
theorem dX6_change_16 : decode cX6_change 16 = .ok (.getfield 36, 3) := by decide +kernel
theorem dX6_change_19 : decode cX6_change 19 = .ok (.invokevirtual 102, 3) := by decide +kernel
theorem dX6_change_22 : decode cX6_change 22 = .ok (.iconst (-1), 1) := by decide +kernel
theorem dX6_change_23 : decode cX6_change 23 = .ok (.ixor, 1) := by decide +kernel
theorem dX6_change_24 : decode cX6_change 24 = .ok (.iand, 1) := by decide +kernel
theorem dX6_change_25 : decode cX6_change 25 = .ok (.ifCond .ne 11, 3) := by decide +kernel
theorem dX6_change_28 : decode cX6_change 28 = .ok (.iload_n 3, 1) := by decide +kernel
theorem dX6_change_29 : decode cX6_change 29 = .ok (.invokestatic 106, 3) := by decide +kernel
theorem dX6_change_32 : decode cX6_change 32 = .ok (.iconst 4, 1) := by decide +kernel
theorem dX6_change_33 : decode cX6_change 33 = .ok (.if_icmp .le 6, 3) := by decide +kernel
theorem dX6_change_36 : decode cX6_change 36 = .ok (.bipush (-2), 2) := by decide +kernel
theorem dX6_change_38 : decode cX6_change 38 = .ok (.ireturn, 1) := by decide +kernel
theorem dX6_change_39 : decode cX6_change 39 = .ok (.aload_n 0, 1) := by decide +kernel
theorem dX6_change_40 : decode cX6_change 40 = .ok (.getfield 36, 3) := by decide +kernel
theorem dX6_change_43 : decode cX6_change 43 = .ok (.iload_n 1, 1) := by decide +kernel
theorem dX6_change_44 : decode cX6_change 44 = .ok (.iload_n 2, 1) := by decide +kernel
theorem dX6_change_45 : decode cX6_change 45 = .ok (.iload_n 3, 1) := by decide +kernel
theorem dX6_change_46 : decode cX6_change 46 = .ok (.invokevirtual 111, 3) := by decide +kernel
theorem dX6_change_49 : decode cX6_change 49 = .ok (.ireturn, 1) := by decide +kernel
theorem dX6_dancer_0 : decode cX6_dancer 0 = .ok (.iload_n 1, 1) := by decide +kernel
theorem dX6_dancer_1 : decode cX6_dancer 1 = .ok (.ifCond .lt 19, 3) := by decide +kernel
theorem dX6_dancer_4 : decode cX6_dancer 4 = .ok (.iload_n 1, 1) := by decide +kernel
theorem dX6_dancer_5 : decode cX6_dancer 5 = .ok (.iconst 3, 1) := by decide +kernel
theorem dX6_dancer_6 : decode cX6_dancer 6 = .ok (.if_icmp .ge 14, 3) := by decide +kernel
theorem dX6_dancer_9 : decode cX6_dancer 9 = .ok (.iload_n 2, 1) := by decide +kernel
theorem dX6_dancer_10 : decode cX6_dancer 10 = .ok (.iconst 1, 1) := by decide +kernel
theorem dX6_dancer_11 : decode cX6_dancer 11 = .ok (.if_icmp .lt 9, 3) := by decide +kernel
theorem dX6_dancer_14 : decode cX6_dancer 14 = .ok (.iload_n 2, 1) := by decide +kernel
theorem dX6_dancer_15 : decode cX6_dancer 15 = .ok (.bipush 9, 2) := by decide +kernel
theorem dX6_dancer_17 : decode cX6_dancer 17 = .ok (.if_icmp .le 6, 3) := by decide +kernel
theorem dX6_dancer_20 : decode cX6_dancer 20 = .ok (.bipush (-2), 2) := by decide +kernel
theorem dX6_dancer_22 : decode cX6_dancer 22 = .ok (.ireturn, 1) := by decide +kernel
theorem dX6_dancer_23 : decode cX6_dancer 23 = .ok (.aload_n 0, 1) := by decide +kernel
theorem dX6_dancer_24 : decode cX6_dancer 24 = .ok (.getfield 36, 3) := by decide +kernel
theorem dX6_dancer_27 : decode cX6_dancer 27 = .ok (.invokevirtual 115, 3) := by decide +kernel
theorem dX6_dancer_30 : decode cX6_dancer 30 = .ok (.ifCond .ne 6, 3) := by decide +kernel
theorem dX6_dancer_33 : decode cX6_dancer 33 = .ok (.bipush (-3), 2) := by decide +kernel
theorem dX6_dancer_35 : decode cX6_dancer 35 = .ok (.ireturn, 1) := by decide +kernel
theorem dX6_dancer_36 : decode cX6_dancer 36 = .ok (.aload_n 0, 1) := by decide +kernel
theorem dX6_dancer_37 : decode cX6_dancer 37 = .ok (.getfield 41, 3) := by decide +kernel
theorem dX6_dancer_40 : decode cX6_dancer 40 = .ok (.invokevirtual 119, 3) := by decide +kernel
theorem dX6_dancer_43 : decode cX6_dancer 43 = .ok (.ifCond .eq 8, 3) := by decide +kernel
theorem dX6_dancer_46 : decode cX6_dancer 46 = .ok (.bipush (-4), 2) := by decide +kernel
theorem dX6_dancer_48 : decode cX6_dancer 48 = .ok (.goto 12, 3) := by decide +kernel
theorem dX6_dancer_51 : decode cX6_dancer 51 = .ok (.aload_n 0, 1) := by decide +kernel
theorem dX6_dancer_52 : decode cX6_dancer 52 = .ok (.getfield 41, 3) := by decide +kernel
theorem dX6_dancer_55 : decode cX6_dancer 55 = .ok (.iload_n 1, 1) := by decide +kernel
theorem dX6_dancer_56 : decode cX6_dancer 56 = .ok (.iload_n 2, 1) := by decide +kernel
theorem dX6_dancer_57 : decode cX6_dancer 57 = .ok (.invokevirtual 122, 3) := by decide +kernel
theorem dX6_dancer_60 : decode cX6_dancer 60 = .ok (.ireturn, 1) := by decide +kernel
theorem dX6_ofDancer_0 : decode cX6_ofDancer 0 = .ok (.aload_n 0, 1) := by decide +kernel
theorem dX6_ofDancer_1 : decode cX6_ofDancer 1 = .ok (.getfield 41, 3) := by decide +kernel
theorem dX6_ofDancer_4 : decode cX6_ofDancer 4 = .ok (.iload_n 1, 1) := by decide +kernel
theorem dX6_ofDancer_5 : decode cX6_ofDancer 5 = .ok (.invokevirtual 125, 3) := by decide +kernel
theorem dX6_ofDancer_8 : decode cX6_ofDancer 8 = .ok (.ifCond .ne 5, 3) := by decide +kernel
theorem dX6_ofDancer_11 : decode cX6_ofDancer 11 = .ok (.iconst (-1), 1) := by decide +kernel
theorem dX6_ofDancer_12 : decode cX6_ofDancer 12 = .ok (.ireturn, 1) := by decide +kernel
theorem dX6_ofDancer_13 : decode cX6_ofDancer 13 = .ok (.iload_n 2, 1) := by decide +kernel
theorem dX6_ofDancer_14 : decode cX6_ofDancer 14 = .ok (.tableswitch 64 0 2 #[26, 35, 44], 26) := by decide +kernel
theorem dX6_ofDancer_40 : decode cX6_ofDancer 40 = .ok (.aload_n 0, 1) := by decide +kernel
theorem dX6_ofDancer_41 : decode cX6_ofDancer 41 = .ok (.getfield 41, 3) := by decide +kernel
theorem dX6_ofDancer_44 : decode cX6_ofDancer 44 = .ok (.iload_n 1, 1) := by decide +kernel
theorem dX6_ofDancer_45 : decode cX6_ofDancer 45 = .ok (.invokevirtual 128, 3) := by decide +kernel
theorem dX6_ofDancer_48 : decode cX6_ofDancer 48 = .ok (.ireturn, 1) := by decide +kernel
theorem dX6_ofDancer_49 : decode cX6_ofDancer 49 = .ok (.aload_n 0, 1) := by decide +kernel
theorem dX6_ofDancer_50 : decode cX6_ofDancer 50 = .ok (.getfield 41, 3) := by decide +kernel
theorem dX6_ofDancer_53 : decode cX6_ofDancer 53 = .ok (.iload_n 1, 1) := by decide +kernel
theorem dX6_ofDancer_54 : decode cX6_ofDancer 54 = .ok (.invokevirtual 131, 3) := by decide +kernel
theorem dX6_ofDancer_57 : decode cX6_ofDancer 57 = .ok (.ireturn, 1) := by decide +kernel
theorem dX6_ofDancer_58 : decode cX6_ofDancer 58 = .ok (.aload_n 0, 1) := by decide +kernel
theorem dX6_ofDancer_59 : decode cX6_ofDancer 59 = .ok (.getfield 41, 3) := by decide +kernel
theorem dX6_ofDancer_62 : decode cX6_ofDancer 62 = .ok (.iload_n 1, 1) := by decide +kernel
theorem dX6_ofDancer_63 : decode cX6_ofDancer 63 = .ok (.invokevirtual 128, 3) := by decide +kernel
theorem dX6_ofDancer_66 : decode cX6_ofDancer 66 = .ok (.aload_n 0, 1) := by decide +kernel
theorem dX6_ofDancer_67 : decode cX6_ofDancer 67 = .ok (.getfield 41, 3) := by decide +kernel
theorem dX6_ofDancer_70 : decode cX6_ofDancer 70 = .ok (.iload_n 1, 1) := by decide +kernel
theorem dX6_ofDancer_71 : decode cX6_ofDancer 71 = .ok (.invokevirtual 131, 3) := by decide +kernel
theorem dX6_ofDancer_74 : decode cX6_ofDancer 74 = .ok (.invokestatic 134, 3) := by decide +kernel
theorem dX6_ofDancer_77 : decode cX6_ofDancer 77 = .ok (.ireturn, 1) := by decide +kernel
theorem dX6_ofDancer_78 : decode cX6_ofDancer 78 = .ok (.bipush (-2), 2) := by decide +kernel
theorem dX6_ofDancer_80 : decode cX6_ofDancer 80 = .ok (.ireturn, 1) := by decide +kernel
theorem dX6_leave_0 : decode cX6_leave 0 = .ok (.iload_n 1, 1) := by decide +kernel
theorem dX6_leave_1 : decode cX6_leave 1 = .ok (.ifCond .lt 14, 3) := by decide +kernel
theorem dX6_leave_4 : decode cX6_leave 4 = .ok (.iload_n 1, 1) := by decide +kernel
theorem dX6_leave_5 : decode cX6_leave 5 = .ok (.aload_n 0, 1) := by decide +kernel
theorem dX6_leave_6 : decode cX6_leave 6 = .ok (.getfield 41, 3) := by decide +kernel
theorem dX6_leave_9 : decode cX6_leave 9 = .ok (.getfield 70, 3) := by decide +kernel
theorem dX6_leave_12 : decode cX6_leave 12 = .ok (.if_icmp .le 6, 3) := by decide +kernel
theorem dX6_leave_15 : decode cX6_leave 15 = .ok (.bipush (-2), 2) := by decide +kernel
theorem dX6_leave_17 : decode cX6_leave 17 = .ok (.ireturn, 1) := by decide +kernel
theorem dX6_leave_18 : decode cX6_leave 18 = .ok (.aload_n 0, 1) := by decide +kernel
theorem dX6_leave_19 : decode cX6_leave 19 = .ok (.getfield 41, 3) := by decide +kernel
theorem dX6_leave_22 : decode cX6_leave 22 = .ok (.dup, 1) := by decide +kernel
theorem dX6_leave_23 : decode cX6_leave 23 = .ok (.getfield 70, 3) := by decide +kernel
theorem dX6_leave_26 : decode cX6_leave 26 = .ok (.iload_n 1, 1) := by decide +kernel
theorem dX6_leave_27 : decode cX6_leave 27 = .ok (.isub, 1) := by decide +kernel
theorem dX6_leave_28 : decode cX6_leave 28 = .ok (.putfield 70, 3) := by decide +kernel
theorem dX6_leave_31 : decode cX6_leave 31 = .ok (.aload_n 0, 1) := by decide +kernel
theorem dX6_leave_32 : decode cX6_leave 32 = .ok (.getfield 41, 3) := by decide +kernel
theorem dX6_leave_35 : decode cX6_leave 35 = .ok (.getfield 70, 3) := by decide +kernel
theorem dX6_leave_38 : decode cX6_leave 38 = .ok (.ireturn, 1) := by decide +kernel
theorem dX6_opens_0 : decode cX6_opens 0 = .ok (.aload_n 0, 1) := by decide +kernel
theorem dX6_opens_1 : decode cX6_opens 1 = .ok (.iload_n 1, 1) := by decide +kernel
theorem dX6_opens_2 : decode cX6_opens 2 = .ok (.iload_n 2, 1) := by decide +kernel
theorem dX6_opens_3 : decode cX6_opens 3 = .ok (.iload_n 3, 1) := by decide +kernel
theorem dX6_opens_4 : decode cX6_opens 4 = .ok (.iload_n 1, 1) := by decide +kernel
theorem dX6_opens_5 : decode cX6_opens 5 = .ok (.iconst 1, 1) := by decide +kernel
theorem dX6_opens_6 : decode cX6_opens 6 = .ok (.if_icmp .lt 9, 3) := by decide +kernel
theorem dX6_opens_9 : decode cX6_opens 9 = .ok (.iload_n 1, 1) := by decide +kernel
theorem dX6_opens_10 : decode cX6_opens 10 = .ok (.bipush 6, 2) := by decide +kernel
theorem dX6_opens_12 : decode cX6_opens 12 = .ok (.if_icmp .le 7, 3) := by decide +kernel
theorem dX6_opens_15 : decode cX6_opens 15 = .ok (.iconst 1, 1) := by decide +kernel
theorem dX6_opens_16 : decode cX6_opens 16 = .ok (.goto 4, 3) := by decide +kernel
theorem dX6_opens_19 : decode cX6_opens 19 = .ok (.iconst 0, 1) := by decide +kernel
theorem dX6_opens_20 : decode cX6_opens 20 = .ok (.iload 4, 2) := by decide +kernel
theorem dX6_opens_22 : decode cX6_opens 22 = .ok (.invokevirtual 137, 3) := by decide +kernel
theorem dX6_opens_25 : decode cX6_opens 25 = .ok (.istore 5, 2) := by decide +kernel
theorem dX6_opens_27 : decode cX6_opens 27 = .ok (.iload 5, 2) := by decide +kernel
theorem dX6_opens_29 : decode cX6_opens 29 = .ok (.ifCond .eq 8, 3) := by decide +kernel
theorem dX6_opens_32 : decode cX6_opens 32 = .ok (.iload 5, 2) := by decide +kernel
theorem dX6_opens_34 : decode cX6_opens 34 = .ok (.goto 11, 3) := by decide +kernel
theorem dX6_opens_37 : decode cX6_opens 37 = .ok (.aload_n 0, 1) := by decide +kernel
theorem dX6_opens_38 : decode cX6_opens 38 = .ok (.getfield 28, 3) := by decide +kernel
theorem dX6_opens_41 : decode cX6_opens 41 = .ok (.iload_n 1, 1) := by decide +kernel
theorem dX6_opens_42 : decode cX6_opens 42 = .ok (.invokevirtual 141, 3) := by decide +kernel
theorem dX6_opens_45 : decode cX6_opens 45 = .ok (.ireturn, 1) := by decide +kernel
theorem dX6_felt_0 : decode cX6_felt 0 = .ok (.iload_n 1, 1) := by decide +kernel
theorem dX6_felt_1 : decode cX6_felt 1 = .ok (.iconst 1, 1) := by decide +kernel
theorem dX6_felt_2 : decode cX6_felt 2 = .ok (.if_icmp .lt 18, 3) := by decide +kernel
theorem dX6_felt_5 : decode cX6_felt 5 = .ok (.iload_n 1, 1) := by decide +kernel
theorem dX6_felt_6 : decode cX6_felt 6 = .ok (.bipush 6, 2) := by decide +kernel
theorem dX6_felt_8 : decode cX6_felt 8 = .ok (.if_icmp .gt 12, 3) := by decide +kernel
theorem dX6_felt_11 : decode cX6_felt 11 = .ok (.iload_n 2, 1) := by decide +kernel
theorem dX6_felt_12 : decode cX6_felt 12 = .ok (.ifCond .lt 8, 3) := by decide +kernel
theorem dX6_felt_15 : decode cX6_felt 15 = .ok (.iload_n 2, 1) := by decide +kernel
theorem dX6_felt_16 : decode cX6_felt 16 = .ok (.iload_n 1, 1) := by decide +kernel
theorem dX6_felt_17 : decode cX6_felt 17 = .ok (.if_icmp .lt 7, 3) := by decide +kernel
theorem dX6_felt_20 : decode cX6_felt 20 = .ok (.iconst 1, 1) := by decide +kernel
theorem dX6_felt_21 : decode cX6_felt 21 = .ok (.goto 4, 3) := by decide +kernel
theorem dX6_felt_24 : decode cX6_felt 24 = .ok (.iconst 0, 1) := by decide +kernel
theorem dX6_felt_25 : decode cX6_felt 25 = .ok (.istore 6, 2) := by decide +kernel
theorem dX6_felt_27 : decode cX6_felt 27 = .ok (.aload_n 0, 1) := by decide +kernel
theorem dX6_felt_28 : decode cX6_felt 28 = .ok (.iload_n 1, 1) := by decide +kernel
theorem dX6_felt_29 : decode cX6_felt 29 = .ok (.iload_n 3, 1) := by decide +kernel
theorem dX6_felt_30 : decode cX6_felt 30 = .ok (.iload 4, 2) := by decide +kernel
theorem dX6_felt_32 : decode cX6_felt 32 = .ok (.iload 6, 2) := by decide +kernel
theorem dX6_felt_34 : decode cX6_felt 34 = .ok (.iload 5, 2) := by decide +kernel
theorem dX6_felt_36 : decode cX6_felt 36 = .ok (.invokevirtual 137, 3) := by decide +kernel
theorem dX6_felt_39 : decode cX6_felt 39 = .ok (.istore 7, 2) := by decide +kernel
theorem dX6_felt_41 : decode cX6_felt 41 = .ok (.iload 7, 2) := by decide +kernel
theorem dX6_felt_43 : decode cX6_felt 43 = .ok (.ifCond .eq 8, 3) := by decide +kernel
theorem dX6_felt_46 : decode cX6_felt 46 = .ok (.iload 7, 2) := by decide +kernel
theorem dX6_felt_48 : decode cX6_felt 48 = .ok (.goto 11, 3) := by decide +kernel
theorem dX6_felt_51 : decode cX6_felt 51 = .ok (.aload_n 0, 1) := by decide +kernel
theorem dX6_felt_52 : decode cX6_felt 52 = .ok (.getfield 28, 3) := by decide +kernel
theorem dX6_felt_55 : decode cX6_felt 55 = .ok (.iload_n 2, 1) := by decide +kernel
theorem dX6_felt_56 : decode cX6_felt 56 = .ok (.invokevirtual 144, 3) := by decide +kernel
theorem dX6_felt_59 : decode cX6_felt 59 = .ok (.ireturn, 1) := by decide +kernel
theorem dX6_wrong_0 : decode cX6_wrong 0 = .ok (.aload_n 0, 1) := by decide +kernel
theorem dX6_wrong_1 : decode cX6_wrong 1 = .ok (.iconst 0, 1) := by decide +kernel
theorem dX6_wrong_2 : decode cX6_wrong 2 = .ok (.putfield 147, 3) := by decide +kernel
theorem dX6_wrong_5 : decode cX6_wrong 5 = .ok (.aload_n 0, 1) := by decide +kernel
theorem dX6_wrong_6 : decode cX6_wrong 6 = .ok (.getfield 36, 3) := by decide +kernel
theorem dX6_wrong_9 : decode cX6_wrong 9 = .ok (.iload_n 1, 1) := by decide +kernel
theorem dX6_wrong_10 : decode cX6_wrong 10 = .ok (.invokevirtual 87, 3) := by decide +kernel
theorem dX6_wrong_13 : decode cX6_wrong 13 = .ok (.ifCond .ne 5, 3) := by decide +kernel
theorem dX6_wrong_16 : decode cX6_wrong 16 = .ok (.iconst (-1), 1) := by decide +kernel
theorem dX6_wrong_17 : decode cX6_wrong 17 = .ok (.ireturn, 1) := by decide +kernel
theorem dX6_wrong_18 : decode cX6_wrong 18 = .ok (.aload_n 0, 1) := by decide +kernel
theorem dX6_wrong_19 : decode cX6_wrong 19 = .ok (.aload_n 0, 1) := by decide +kernel
theorem dX6_wrong_20 : decode cX6_wrong 20 = .ok (.getfield 36, 3) := by decide +kernel
theorem dX6_wrong_23 : decode cX6_wrong 23 = .ok (.iload_n 1, 1) := by decide +kernel
theorem dX6_wrong_24 : decode cX6_wrong 24 = .ok (.invokevirtual 90, 3) := by decide +kernel
theorem dX6_wrong_27 : decode cX6_wrong 27 = .ok (.iload_n 2, 1) := by decide +kernel
theorem dX6_wrong_28 : decode cX6_wrong 28 = .ok (.iload_n 3, 1) := by decide +kernel
theorem dX6_wrong_29 : decode cX6_wrong 29 = .ok (.iconst 0, 1) := by decide +kernel
theorem dX6_wrong_30 : decode cX6_wrong 30 = .ok (.iload 4, 2) := by decide +kernel
theorem dX6_wrong_32 : decode cX6_wrong 32 = .ok (.invokevirtual 137, 3) := by decide +kernel
theorem dX6_wrong_35 : decode cX6_wrong 35 = .ok (.istore 5, 2) := by decide +kernel
theorem dX6_wrong_37 : decode cX6_wrong 37 = .ok (.iload 5, 2) := by decide +kernel
theorem dX6_wrong_39 : decode cX6_wrong 39 = .ok (.ifCond .eq 8, 3) := by decide +kernel
theorem dX6_wrong_42 : decode cX6_wrong 42 = .ok (.iload 5, 2) := by decide +kernel
theorem dX6_wrong_44 : decode cX6_wrong 44 = .ok (.goto 11, 3) := by decide +kernel
theorem dX6_wrong_47 : decode cX6_wrong 47 = .ok (.aload_n 0, 1) := by decide +kernel
theorem dX6_wrong_48 : decode cX6_wrong 48 = .ok (.getfield 28, 3) := by decide +kernel
theorem dX6_wrong_51 : decode cX6_wrong 51 = .ok (.iload_n 1, 1) := by decide +kernel
theorem dX6_wrong_52 : decode cX6_wrong 52 = .ok (.invokevirtual 150, 3) := by decide +kernel
theorem dX6_wrong_55 : decode cX6_wrong 55 = .ok (.ireturn, 1) := by decide +kernel
theorem dX6_can_0 : decode cX6_can 0 = .ok (.aload_n 0, 1) := by decide +kernel
theorem dX6_can_1 : decode cX6_can 1 = .ok (.getfield 36, 3) := by decide +kernel
theorem dX6_can_4 : decode cX6_can 4 = .ok (.iload_n 1, 1) := by decide +kernel
theorem dX6_can_5 : decode cX6_can 5 = .ok (.invokevirtual 87, 3) := by decide +kernel
theorem dX6_can_8 : decode cX6_can 8 = .ok (.ifCond .ne 5, 3) := by decide +kernel
theorem dX6_can_11 : decode cX6_can 11 = .ok (.iconst (-1), 1) := by decide +kernel
theorem dX6_can_12 : decode cX6_can 12 = .ok (.ireturn, 1) := by decide +kernel
theorem dX6_can_13 : decode cX6_can 13 = .ok (.aload_n 0, 1) := by decide +kernel
theorem dX6_can_14 : decode cX6_can 14 = .ok (.getfield 28, 3) := by decide +kernel
theorem dX6_can_17 : decode cX6_can 17 = .ok (.iload_n 1, 1) := by decide +kernel
theorem dX6_can_18 : decode cX6_can 18 = .ok (.iconst 0, 1) := by decide +kernel
theorem dX6_can_19 : decode cX6_can 19 = .ok (.invokevirtual 153, 3) := by decide +kernel
theorem dX6_can_22 : decode cX6_can 22 = .ok (.ifCond .eq 7, 3) := by decide +kernel
theorem dX6_can_25 : decode cX6_can 25 = .ok (.iconst 1, 1) := by decide +kernel
theorem dX6_can_26 : decode cX6_can 26 = .ok (.goto 4, 3) := by decide +kernel
theorem dX6_can_29 : decode cX6_can 29 = .ok (.iconst 0, 1) := by decide +kernel
theorem dX6_can_30 : decode cX6_can 30 = .ok (.ireturn, 1) := by decide +kernel
theorem dX6_plan_0 : decode cX6_plan 0 = .ok (.aload_n 0, 1) := by decide +kernel
theorem dX6_plan_1 : decode cX6_plan 1 = .ok (.getfield 36, 3) := by decide +kernel
theorem dX6_plan_4 : decode cX6_plan 4 = .ok (.iload_n 1, 1) := by decide +kernel
theorem dX6_plan_5 : decode cX6_plan 5 = .ok (.iload_n 2, 1) := by decide +kernel
theorem dX6_plan_6 : decode cX6_plan 6 = .ok (.invokevirtual 94, 3) := by decide +kernel
theorem dX6_plan_9 : decode cX6_plan 9 = .ok (.ifCond .eq 14, 3) := by decide +kernel
theorem dX6_plan_12 : decode cX6_plan 12 = .ok (.aload_n 0, 1) := by decide +kernel
theorem dX6_plan_13 : decode cX6_plan 13 = .ok (.getfield 41, 3) := by decide +kernel
theorem dX6_plan_16 : decode cX6_plan 16 = .ok (.iload_n 3, 1) := by decide +kernel
theorem dX6_plan_17 : decode cX6_plan 17 = .ok (.invokevirtual 125, 3) := by decide +kernel
theorem dX6_plan_20 : decode cX6_plan 20 = .ok (.ifCond .ne 5, 3) := by decide +kernel
theorem dX6_plan_23 : decode cX6_plan 23 = .ok (.iconst (-1), 1) := by decide +kernel
theorem dX6_plan_24 : decode cX6_plan 24 = .ok (.ireturn, 1) := by decide +kernel
theorem dX6_plan_25 : decode cX6_plan 25 = .ok (.aload_n 0, 1) := by decide +kernel
theorem dX6_plan_26 : decode cX6_plan 26 = .ok (.getfield 28, 3) := by decide +kernel
theorem dX6_plan_29 : decode cX6_plan 29 = .ok (.iload_n 1, 1) := by decide +kernel
theorem dX6_plan_30 : decode cX6_plan 30 = .ok (.iconst 0, 1) := by decide +kernel
theorem dX6_plan_31 : decode cX6_plan 31 = .ok (.invokevirtual 153, 3) := by decide +kernel
theorem dX6_plan_34 : decode cX6_plan 34 = .ok (.ifCond .eq 15, 3) := by decide +kernel
theorem dX6_plan_37 : decode cX6_plan 37 = .ok (.aload_n 0, 1) := by decide +kernel
theorem dX6_plan_38 : decode cX6_plan 38 = .ok (.getfield 28, 3) := by decide +kernel
theorem dX6_plan_41 : decode cX6_plan 41 = .ok (.iload_n 2, 1) := by decide +kernel
theorem dX6_plan_42 : decode cX6_plan 42 = .ok (.iload_n 3, 1) := by decide +kernel
theorem dX6_plan_43 : decode cX6_plan 43 = .ok (.invokevirtual 157, 3) := by decide +kernel
theorem dX6_plan_46 : decode cX6_plan 46 = .ok (.goto 5, 3) := by decide +kernel
theorem dX6_plan_49 : decode cX6_plan 49 = .ok (.bipush (-9), 2) := by decide +kernel
theorem dX6_plan_51 : decode cX6_plan 51 = .ok (.ireturn, 1) := by decide +kernel
theorem dX6_limped_0 : decode cX6_limped 0 = .ok (.aload_n 0, 1) := by decide +kernel
theorem dX6_limped_1 : decode cX6_limped 1 = .ok (.getfield 36, 3) := by decide +kernel
theorem dX6_limped_4 : decode cX6_limped 4 = .ok (.iload_n 1, 1) := by decide +kernel
theorem dX6_limped_5 : decode cX6_limped 5 = .ok (.invokevirtual 87, 3) := by decide +kernel
theorem dX6_limped_8 : decode cX6_limped 8 = .ok (.ifCond .ne 5, 3) := by decide +kernel
theorem dX6_limped_11 : decode cX6_limped 11 = .ok (.iconst (-1), 1) := by decide +kernel
theorem dX6_limped_12 : decode cX6_limped 12 = .ok (.ireturn, 1) := by decide +kernel
theorem dX6_limped_13 : decode cX6_limped 13 = .ok (.aload_n 0, 1) := by decide +kernel
theorem dX6_limped_14 : decode cX6_limped 14 = .ok (.getfield 28, 3) := by decide +kernel
theorem dX6_limped_17 : decode cX6_limped 17 = .ok (.iload_n 1, 1) := by decide +kernel
theorem dX6_limped_18 : decode cX6_limped 18 = .ok (.iconst 1, 1) := by decide +kernel
theorem dX6_limped_19 : decode cX6_limped 19 = .ok (.invokevirtual 153, 3) := by decide +kernel
theorem dX6_limped_22 : decode cX6_limped 22 = .ok (.ifCond .ne 6, 3) := by decide +kernel
theorem dX6_limped_25 : decode cX6_limped 25 = .ok (.bipush (-3), 2) := by decide +kernel
theorem dX6_limped_27 : decode cX6_limped 27 = .ok (.ireturn, 1) := by decide +kernel
theorem dX6_limped_28 : decode cX6_limped 28 = .ok (.aload_n 0, 1) := by decide +kernel
theorem dX6_limped_29 : decode cX6_limped 29 = .ok (.getfield 28, 3) := by decide +kernel
theorem dX6_limped_32 : decode cX6_limped 32 = .ok (.aload_n 0, 1) := by decide +kernel
theorem dX6_limped_33 : decode cX6_limped 33 = .ok (.getfield 36, 3) := by decide +kernel
theorem dX6_limped_36 : decode cX6_limped 36 = .ok (.iload_n 1, 1) := by decide +kernel
theorem dX6_limped_37 : decode cX6_limped 37 = .ok (.invokevirtual 90, 3) := by decide +kernel
theorem dX6_limped_40 : decode cX6_limped 40 = .ok (.invokevirtual 141, 3) := by decide +kernel
theorem dX6_limped_43 : decode cX6_limped 43 = .ok (.ireturn, 1) := by decide +kernel
theorem dX6_family_0 : decode cX6_family 0 = .ok (.iload_n 1, 1) := by decide +kernel
theorem dX6_family_1 : decode cX6_family 1 = .ok (.aload_n 0, 1) := by decide +kernel
theorem dX6_family_2 : decode cX6_family 2 = .ok (.getfield 36, 3) := by decide +kernel
theorem dX6_family_5 : decode cX6_family 5 = .ok (.invokevirtual 160, 3) := by decide +kernel
theorem dX6_family_8 : decode cX6_family 8 = .ok (.iconst (-1), 1) := by decide +kernel
theorem dX6_family_9 : decode cX6_family 9 = .ok (.ixor, 1) := by decide +kernel
theorem dX6_family_10 : decode cX6_family 10 = .ok (.iand, 1) := by decide +kernel
theorem dX6_family_11 : decode cX6_family 11 = .ok (.ifCond .eq 6, 3) := by decide +kernel
theorem dX6_family_14 : decode cX6_family 14 = .ok (.bipush (-2), 2) := by decide +kernel
theorem dX6_family_16 : decode cX6_family 16 = .ok (.ireturn, 1) := by decide +kernel
theorem dX6_family_17 : decode cX6_family 17 = .ok (.aload_n 0, 1) := by decide +kernel
theorem dX6_family_18 : decode cX6_family 18 = .ok (.getfield 36, 3) := by decide +kernel
theorem dX6_family_21 : decode cX6_family 21 = .ok (.invokevirtual 115, 3) := by decide +kernel
theorem dX6_family_24 : decode cX6_family 24 = .ok (.ifCond .ne 6, 3) := by decide +kernel
theorem dX6_family_27 : decode cX6_family 27 = .ok (.bipush (-3), 2) := by decide +kernel
theorem dX6_family_29 : decode cX6_family 29 = .ok (.ireturn, 1) := by decide +kernel
theorem dX6_family_30 : decode cX6_family 30 = .ok (.aload_n 0, 1) := by decide +kernel
theorem dX6_family_31 : decode cX6_family 31 = .ok (.getfield 45, 3) := by decide +kernel
theorem dX6_family_34 : decode cX6_family 34 = .ok (.invokevirtual 163, 3) := by decide +kernel
theorem dX6_family_37 : decode cX6_family 37 = .ok (.ifCond .eq 8, 3) := by decide +kernel
theorem dX6_family_40 : decode cX6_family 40 = .ok (.bipush (-4), 2) := by decide +kernel
theorem dX6_family_42 : decode cX6_family 42 = .ok (.goto 11, 3) := by decide +kernel
theorem dX6_family_45 : decode cX6_family 45 = .ok (.aload_n 0, 1) := by decide +kernel
theorem dX6_family_46 : decode cX6_family 46 = .ok (.getfield 45, 3) := by decide +kernel
theorem dX6_family_49 : decode cX6_family 49 = .ok (.iload_n 1, 1) := by decide +kernel
theorem dX6_family_50 : decode cX6_family 50 = .ok (.invokevirtual 164, 3) := by decide +kernel
theorem dX6_family_53 : decode cX6_family 53 = .ok (.ireturn, 1) := by decide +kernel
theorem dX6_knows_0 : decode cX6_knows 0 = .ok (.aload_n 0, 1) := by decide +kernel
theorem dX6_knows_1 : decode cX6_knows 1 = .ok (.getfield 45, 3) := by decide +kernel
theorem dX6_knows_4 : decode cX6_knows 4 = .ok (.iload_n 1, 1) := by decide +kernel
theorem dX6_knows_5 : decode cX6_knows 5 = .ok (.invokevirtual 167, 3) := by decide +kernel
theorem dX6_knows_8 : decode cX6_knows 8 = .ok (.ifCond .eq 14, 3) := by decide +kernel
theorem dX6_knows_11 : decode cX6_knows 11 = .ok (.aload_n 0, 1) := by decide +kernel
theorem dX6_knows_12 : decode cX6_knows 12 = .ok (.getfield 45, 3) := by decide +kernel
theorem dX6_knows_15 : decode cX6_knows 15 = .ok (.iload_n 1, 1) := by decide +kernel
theorem dX6_knows_16 : decode cX6_knows 16 = .ok (.invokevirtual 168, 3) := by decide +kernel
theorem dX6_knows_19 : decode cX6_knows 19 = .ok (.goto 4, 3) := by decide +kernel
theorem dX6_knows_22 : decode cX6_knows 22 = .ok (.iconst (-1), 1) := by decide +kernel
theorem dX6_knows_23 : decode cX6_knows 23 = .ok (.ireturn, 1) := by decide +kernel
theorem dX6_fewest_0 : decode cX6_fewest 0 = .ok (.aload_n 0, 1) := by decide +kernel
theorem dX6_fewest_1 : decode cX6_fewest 1 = .ok (.getfield 36, 3) := by decide +kernel
theorem dX6_fewest_4 : decode cX6_fewest 4 = .ok (.iload_n 1, 1) := by decide +kernel
theorem dX6_fewest_5 : decode cX6_fewest 5 = .ok (.invokevirtual 87, 3) := by decide +kernel
theorem dX6_fewest_8 : decode cX6_fewest 8 = .ok (.ifCond .eq 21, 3) := by decide +kernel
theorem dX6_fewest_11 : decode cX6_fewest 11 = .ok (.aload_n 0, 1) := by decide +kernel
theorem dX6_fewest_12 : decode cX6_fewest 12 = .ok (.getfield 45, 3) := by decide +kernel
theorem dX6_fewest_15 : decode cX6_fewest 15 = .ok (.aload_n 0, 1) := by decide +kernel
theorem dX6_fewest_16 : decode cX6_fewest 16 = .ok (.getfield 36, 3) := by decide +kernel
theorem dX6_fewest_19 : decode cX6_fewest 19 = .ok (.iload_n 1, 1) := by decide +kernel
theorem dX6_fewest_20 : decode cX6_fewest 20 = .ok (.invokevirtual 171, 3) := by decide +kernel
theorem dX6_fewest_23 : decode cX6_fewest 23 = .ok (.invokevirtual 174, 3) := by decide +kernel
theorem dX6_fewest_26 : decode cX6_fewest 26 = .ok (.goto 4, 3) := by decide +kernel
theorem dX6_fewest_29 : decode cX6_fewest 29 = .ok (.iconst (-1), 1) := by decide +kernel
theorem dX6_fewest_30 : decode cX6_fewest 30 = .ok (.ireturn, 1) := by decide +kernel
theorem dX6_any_0 : decode cX6_any 0 = .ok (.aload_n 0, 1) := by decide +kernel
theorem dX6_any_1 : decode cX6_any 1 = .ok (.getfield 36, 3) := by decide +kernel
theorem dX6_any_4 : decode cX6_any 4 = .ok (.iload_n 1, 1) := by decide +kernel
theorem dX6_any_5 : decode cX6_any 5 = .ok (.invokevirtual 87, 3) := by decide +kernel
theorem dX6_any_8 : decode cX6_any 8 = .ok (.ifCond .eq 21, 3) := by decide +kernel
theorem dX6_any_11 : decode cX6_any 11 = .ok (.aload_n 0, 1) := by decide +kernel
theorem dX6_any_12 : decode cX6_any 12 = .ok (.getfield 45, 3) := by decide +kernel
theorem dX6_any_15 : decode cX6_any 15 = .ok (.aload_n 0, 1) := by decide +kernel
theorem dX6_any_16 : decode cX6_any 16 = .ok (.getfield 36, 3) := by decide +kernel
theorem dX6_any_19 : decode cX6_any 19 = .ok (.iload_n 1, 1) := by decide +kernel
theorem dX6_any_20 : decode cX6_any 20 = .ok (.invokevirtual 171, 3) := by decide +kernel
theorem dX6_any_23 : decode cX6_any 23 = .ok (.invokevirtual 177, 3) := by decide +kernel
theorem dX6_any_26 : decode cX6_any 26 = .ok (.goto 4, 3) := by decide +kernel
theorem dX6_any_29 : decode cX6_any 29 = .ok (.iconst (-1), 1) := by decide +kernel
theorem dX6_any_30 : decode cX6_any 30 = .ok (.ireturn, 1) := by decide +kernel
theorem dX6_gone_0 : decode cX6_gone 0 = .ok (.aload_n 0, 1) := by decide +kernel
theorem dX6_gone_1 : decode cX6_gone 1 = .ok (.getfield 36, 3) := by decide +kernel
theorem dX6_gone_4 : decode cX6_gone 4 = .ok (.iload_n 1, 1) := by decide +kernel
theorem dX6_gone_5 : decode cX6_gone 5 = .ok (.invokevirtual 87, 3) := by decide +kernel
theorem dX6_gone_8 : decode cX6_gone 8 = .ok (.ifCond .ne 5, 3) := by decide +kernel
theorem dX6_gone_11 : decode cX6_gone 11 = .ok (.iconst (-1), 1) := by decide +kernel
theorem dX6_gone_12 : decode cX6_gone 12 = .ok (.ireturn, 1) := by decide +kernel
theorem dX6_gone_13 : decode cX6_gone 13 = .ok (.iload_n 2, 1) := by decide +kernel
theorem dX6_gone_14 : decode cX6_gone 14 = .ok (.aload_n 0, 1) := by decide +kernel
theorem dX6_gone_15 : decode cX6_gone 15 = .ok (.getfield 45, 3) := by decide +kernel
theorem dX6_gone_18 : decode cX6_gone 18 = .ok (.invokevirtual 180, 3) := by decide +kernel
theorem dX6_gone_21 : decode cX6_gone 21 = .ok (.iconst (-1), 1) := by decide +kernel
theorem dX6_gone_22 : decode cX6_gone 22 = .ok (.ixor, 1) := by decide +kernel
theorem dX6_gone_23 : decode cX6_gone 23 = .ok (.iand, 1) := by decide +kernel
theorem dX6_gone_24 : decode cX6_gone 24 = .ok (.ifCond .eq 6, 3) := by decide +kernel
theorem dX6_gone_27 : decode cX6_gone 27 = .ok (.bipush (-2), 2) := by decide +kernel
theorem dX6_gone_29 : decode cX6_gone 29 = .ok (.ireturn, 1) := by decide +kernel
theorem dX6_gone_30 : decode cX6_gone 30 = .ok (.aload_n 0, 1) := by decide +kernel
theorem dX6_gone_31 : decode cX6_gone 31 = .ok (.getfield 45, 3) := by decide +kernel
theorem dX6_gone_34 : decode cX6_gone 34 = .ok (.aload_n 0, 1) := by decide +kernel
theorem dX6_gone_35 : decode cX6_gone 35 = .ok (.getfield 45, 3) := by decide +kernel
theorem dX6_gone_38 : decode cX6_gone 38 = .ok (.invokevirtual 180, 3) := by decide +kernel
theorem dX6_gone_41 : decode cX6_gone 41 = .ok (.iload_n 2, 1) := by decide +kernel
theorem dX6_gone_42 : decode cX6_gone 42 = .ok (.iconst (-1), 1) := by decide +kernel
theorem dX6_gone_43 : decode cX6_gone 43 = .ok (.ixor, 1) := by decide +kernel
theorem dX6_gone_44 : decode cX6_gone 44 = .ok (.iand, 1) := by decide +kernel
theorem dX6_gone_45 : decode cX6_gone 45 = .ok (.invokevirtual 183, 3) := by decide +kernel
theorem dX6_gone_48 : decode cX6_gone 48 = .ok (.istore_n 3, 1) := by decide +kernel
theorem dX6_gone_49 : decode cX6_gone 49 = .ok (.aload_n 0, 1) := by decide +kernel
theorem dX6_gone_50 : decode cX6_gone 50 = .ok (.getfield 36, 3) := by decide +kernel
theorem dX6_gone_53 : decode cX6_gone 53 = .ok (.iload_n 1, 1) := by decide +kernel
theorem dX6_gone_54 : decode cX6_gone 54 = .ok (.iload_n 3, 1) := by decide +kernel
theorem dX6_gone_55 : decode cX6_gone 55 = .ok (.iconst (-1), 1) := by decide +kernel
theorem dX6_gone_56 : decode cX6_gone 56 = .ok (.ixor, 1) := by decide +kernel
theorem dX6_gone_57 : decode cX6_gone 57 = .ok (.invokevirtual 186, 3) := by decide +kernel
theorem dX6_gone_60 : decode cX6_gone 60 = .ok (.ireturn, 1) := by decide +kernel
theorem dX6_evenings_0 : decode cX6_evenings 0 = .ok (.aload_n 0, 1) := by decide +kernel
theorem dX6_evenings_1 : decode cX6_evenings 1 = .ok (.getfield 36, 3) := by decide +kernel
theorem dX6_evenings_4 : decode cX6_evenings 4 = .ok (.iload_n 1, 1) := by decide +kernel
theorem dX6_evenings_5 : decode cX6_evenings 5 = .ok (.invokevirtual 87, 3) := by decide +kernel
theorem dX6_evenings_8 : decode cX6_evenings 8 = .ok (.ifCond .eq 21, 3) := by decide +kernel
theorem dX6_evenings_11 : decode cX6_evenings 11 = .ok (.aload_n 0, 1) := by decide +kernel
theorem dX6_evenings_12 : decode cX6_evenings 12 = .ok (.getfield 45, 3) := by decide +kernel
theorem dX6_evenings_15 : decode cX6_evenings 15 = .ok (.aload_n 0, 1) := by decide +kernel
theorem dX6_evenings_16 : decode cX6_evenings 16 = .ok (.getfield 36, 3) := by decide +kernel
theorem dX6_evenings_19 : decode cX6_evenings 19 = .ok (.iload_n 1, 1) := by decide +kernel
theorem dX6_evenings_20 : decode cX6_evenings 20 = .ok (.invokevirtual 171, 3) := by decide +kernel
theorem dX6_evenings_23 : decode cX6_evenings 23 = .ok (.invokevirtual 189, 3) := by decide +kernel
theorem dX6_evenings_26 : decode cX6_evenings 26 = .ok (.goto 4, 3) := by decide +kernel
theorem dX6_evenings_29 : decode cX6_evenings 29 = .ok (.iconst (-1), 1) := by decide +kernel
theorem dX6_evenings_30 : decode cX6_evenings 30 = .ok (.ireturn, 1) := by decide +kernel
theorem dX6_seen_0 : decode cX6_seen 0 = .ok (.aload_n 0, 1) := by decide +kernel
theorem dX6_seen_1 : decode cX6_seen 1 = .ok (.iload_n 2, 1) := by decide +kernel
theorem dX6_seen_2 : decode cX6_seen 2 = .ok (.iload_n 3, 1) := by decide +kernel
theorem dX6_seen_3 : decode cX6_seen 3 = .ok (.iload_n 1, 1) := by decide +kernel
theorem dX6_seen_4 : decode cX6_seen 4 = .ok (.aload_n 0, 1) := by decide +kernel
theorem dX6_seen_5 : decode cX6_seen 5 = .ok (.getfield 36, 3) := by decide +kernel
theorem dX6_seen_8 : decode cX6_seen 8 = .ok (.invokevirtual 102, 3) := by decide +kernel
theorem dX6_seen_11 : decode cX6_seen 11 = .ok (.iconst (-1), 1) := by decide +kernel
theorem dX6_seen_12 : decode cX6_seen 12 = .ok (.ixor, 1) := by decide +kernel
theorem dX6_seen_13 : decode cX6_seen 13 = .ok (.iand, 1) := by decide +kernel
theorem dX6_seen_14 : decode cX6_seen 14 = .ok (.ifCond .eq 7, 3) := by decide +kernel
theorem dX6_seen_17 : decode cX6_seen 17 = .ok (.iconst 1, 1) := by decide +kernel
theorem dX6_seen_18 : decode cX6_seen 18 = .ok (.goto 4, 3) := by decide +kernel
theorem dX6_seen_21 : decode cX6_seen 21 = .ok (.iconst 0, 1) := by decide +kernel
theorem dX6_seen_22 : decode cX6_seen 22 = .ok (.iload 4, 2) := by decide +kernel
theorem dX6_seen_24 : decode cX6_seen 24 = .ok (.iload 5, 2) := by decide +kernel
theorem dX6_seen_26 : decode cX6_seen 26 = .ok (.invokevirtual 53, 3) := by decide +kernel
theorem dX6_seen_29 : decode cX6_seen 29 = .ok (.istore 6, 2) := by decide +kernel
theorem dX6_seen_31 : decode cX6_seen 31 = .ok (.iload 6, 2) := by decide +kernel
theorem dX6_seen_33 : decode cX6_seen 33 = .ok (.ifCond .eq 6, 3) := by decide +kernel
theorem dX6_seen_36 : decode cX6_seen 36 = .ok (.iload 6, 2) := by decide +kernel
theorem dX6_seen_38 : decode cX6_seen 38 = .ok (.ireturn, 1) := by decide +kernel
theorem dX6_seen_39 : decode cX6_seen 39 = .ok (.aload_n 0, 1) := by decide +kernel
theorem dX6_seen_40 : decode cX6_seen 40 = .ok (.getfield 36, 3) := by decide +kernel
theorem dX6_seen_43 : decode cX6_seen 43 = .ok (.invokevirtual 115, 3) := by decide +kernel
theorem dX6_seen_46 : decode cX6_seen 46 = .ok (.ifCond .ne 6, 3) := by decide +kernel
theorem dX6_seen_49 : decode cX6_seen 49 = .ok (.bipush (-3), 2) := by decide +kernel
theorem dX6_seen_51 : decode cX6_seen 51 = .ok (.ireturn, 1) := by decide +kernel
theorem dX6_seen_52 : decode cX6_seen 52 = .ok (.aload_n 0, 1) := by decide +kernel
theorem dX6_seen_53 : decode cX6_seen 53 = .ok (.iload_n 1, 1) := by decide +kernel
theorem dX6_seen_54 : decode cX6_seen 54 = .ok (.iload 5, 2) := by decide +kernel
theorem dX6_seen_56 : decode cX6_seen 56 = .ok (.invokevirtual 192, 3) := by decide +kernel
theorem dX6_seen_59 : decode cX6_seen 59 = .ok (.ifCond .eq 20, 3) := by decide +kernel
theorem dX6_seen_62 : decode cX6_seen 62 = .ok (.aload_n 0, 1) := by decide +kernel
theorem dX6_seen_63 : decode cX6_seen 63 = .ok (.getfield 36, 3) := by decide +kernel
theorem dX6_seen_66 : decode cX6_seen 66 = .ok (.iload_n 1, 1) := by decide +kernel
theorem dX6_seen_67 : decode cX6_seen 67 = .ok (.aload_n 0, 1) := by decide +kernel
theorem dX6_seen_68 : decode cX6_seen 68 = .ok (.getfield 49, 3) := by decide +kernel
theorem dX6_seen_71 : decode cX6_seen 71 = .ok (.iload 5, 2) := by decide +kernel
theorem dX6_seen_73 : decode cX6_seen 73 = .ok (.invokevirtual 195, 3) := by decide +kernel
theorem dX6_seen_76 : decode cX6_seen 76 = .ok (.goto 5, 3) := by decide +kernel
theorem dX6_seen_79 : decode cX6_seen 79 = .ok (.bipush (-2), 2) := by decide +kernel
theorem dX6_seen_81 : decode cX6_seen 81 = .ok (.ireturn, 1) := by decide +kernel
theorem dX6_part_0 : decode cX6_part 0 = .ok (.aload_n 0, 1) := by decide +kernel
theorem dX6_part_1 : decode cX6_part 1 = .ok (.iload_n 1, 1) := by decide +kernel
theorem dX6_part_2 : decode cX6_part 2 = .ok (.iload_n 2, 1) := by decide +kernel
theorem dX6_part_3 : decode cX6_part 3 = .ok (.iconst 0, 1) := by decide +kernel
theorem dX6_part_4 : decode cX6_part 4 = .ok (.iload_n 3, 1) := by decide +kernel
theorem dX6_part_5 : decode cX6_part 5 = .ok (.iload 4, 2) := by decide +kernel
theorem dX6_part_7 : decode cX6_part 7 = .ok (.invokevirtual 53, 3) := by decide +kernel
theorem dX6_part_10 : decode cX6_part 10 = .ok (.istore 5, 2) := by decide +kernel
theorem dX6_part_12 : decode cX6_part 12 = .ok (.iload 5, 2) := by decide +kernel
theorem dX6_part_14 : decode cX6_part 14 = .ok (.ifCond .eq 6, 3) := by decide +kernel
theorem dX6_part_17 : decode cX6_part 17 = .ok (.iload 5, 2) := by decide +kernel
theorem dX6_part_19 : decode cX6_part 19 = .ok (.ireturn, 1) := by decide +kernel
theorem dX6_part_20 : decode cX6_part 20 = .ok (.aload_n 0, 1) := by decide +kernel
theorem dX6_part_21 : decode cX6_part 21 = .ok (.getfield 36, 3) := by decide +kernel
theorem dX6_part_24 : decode cX6_part 24 = .ok (.invokevirtual 115, 3) := by decide +kernel
theorem dX6_part_27 : decode cX6_part 27 = .ok (.ifCond .ne 6, 3) := by decide +kernel
theorem dX6_part_30 : decode cX6_part 30 = .ok (.bipush (-3), 2) := by decide +kernel
theorem dX6_part_32 : decode cX6_part 32 = .ok (.ireturn, 1) := by decide +kernel
theorem dX6_part_33 : decode cX6_part 33 = .ok (.iload 4, 2) := by decide +kernel
theorem dX6_part_35 : decode cX6_part 35 = .ok (.ifCond .eq 19, 3) := by decide +kernel
theorem dX6_part_38 : decode cX6_part 38 = .ok (.aload_n 0, 1) := by decide +kernel
theorem dX6_part_39 : decode cX6_part 39 = .ok (.aload_n 0, 1) := by decide +kernel
theorem dX6_part_40 : decode cX6_part 40 = .ok (.getfield 36, 3) := by decide +kernel
theorem dX6_part_43 : decode cX6_part 43 = .ok (.invokevirtual 102, 3) := by decide +kernel
theorem dX6_part_46 : decode cX6_part 46 = .ok (.iload 4, 2) := by decide +kernel
theorem dX6_part_48 : decode cX6_part 48 = .ok (.invokevirtual 192, 3) := by decide +kernel
theorem dX6_part_51 : decode cX6_part 51 = .ok (.ifCond .ne 6, 3) := by decide +kernel
theorem dX6_part_54 : decode cX6_part 54 = .ok (.bipush (-2), 2) := by decide +kernel
theorem dX6_part_56 : decode cX6_part 56 = .ok (.ireturn, 1) := by decide +kernel
theorem dX6_part_57 : decode cX6_part 57 = .ok (.aload_n 0, 1) := by decide +kernel
theorem dX6_part_58 : decode cX6_part 58 = .ok (.getfield 36, 3) := by decide +kernel
theorem dX6_part_61 : decode cX6_part 61 = .ok (.aload_n 0, 1) := by decide +kernel
theorem dX6_part_62 : decode cX6_part 62 = .ok (.getfield 49, 3) := by decide +kernel
theorem dX6_part_65 : decode cX6_part 65 = .ok (.iload 4, 2) := by decide +kernel
theorem dX6_part_67 : decode cX6_part 67 = .ok (.invokevirtual 199, 3) := by decide +kernel
theorem dX6_part_70 : decode cX6_part 70 = .ok (.ireturn, 1) := by decide +kernel
theorem dX6_apart_0 : decode cX6_apart 0 = .ok (.aload_n 0, 1) := by decide +kernel
theorem dX6_apart_1 : decode cX6_apart 1 = .ok (.getfield 36, 3) := by decide +kernel
theorem dX6_apart_4 : decode cX6_apart 4 = .ok (.iload_n 1, 1) := by decide +kernel
theorem dX6_apart_5 : decode cX6_apart 5 = .ok (.invokevirtual 87, 3) := by decide +kernel
theorem dX6_apart_8 : decode cX6_apart 8 = .ok (.ifCond .eq 14, 3) := by decide +kernel
theorem dX6_apart_11 : decode cX6_apart 11 = .ok (.aload_n 0, 1) := by decide +kernel
theorem dX6_apart_12 : decode cX6_apart 12 = .ok (.getfield 36, 3) := by decide +kernel
theorem dX6_apart_15 : decode cX6_apart 15 = .ok (.iload_n 2, 1) := by decide +kernel
theorem dX6_apart_16 : decode cX6_apart 16 = .ok (.invokevirtual 87, 3) := by decide +kernel
theorem dX6_apart_19 : decode cX6_apart 19 = .ok (.ifCond .ne 5, 3) := by decide +kernel
theorem dX6_apart_22 : decode cX6_apart 22 = .ok (.iconst (-1), 1) := by decide +kernel
theorem dX6_apart_23 : decode cX6_apart 23 = .ok (.ireturn, 1) := by decide +kernel
theorem dX6_apart_24 : decode cX6_apart 24 = .ok (.aload_n 0, 1) := by decide +kernel
theorem dX6_apart_25 : decode cX6_apart 25 = .ok (.getfield 36, 3) := by decide +kernel
theorem dX6_apart_28 : decode cX6_apart 28 = .ok (.iload_n 1, 1) := by decide +kernel
theorem dX6_apart_29 : decode cX6_apart 29 = .ok (.iload_n 2, 1) := by decide +kernel
theorem dX6_apart_30 : decode cX6_apart 30 = .ok (.invokevirtual 202, 3) := by decide +kernel
theorem dX6_apart_33 : decode cX6_apart 33 = .ok (.ireturn, 1) := by decide +kernel
theorem dX6_nearest_0 : decode cX6_nearest 0 = .ok (.aload_n 0, 1) := by decide +kernel
theorem dX6_nearest_1 : decode cX6_nearest 1 = .ok (.getfield 36, 3) := by decide +kernel
theorem dX6_nearest_4 : decode cX6_nearest 4 = .ok (.iload_n 1, 1) := by decide +kernel
theorem dX6_nearest_5 : decode cX6_nearest 5 = .ok (.invokevirtual 87, 3) := by decide +kernel
theorem dX6_nearest_8 : decode cX6_nearest 8 = .ok (.ifCond .eq 14, 3) := by decide +kernel
theorem dX6_nearest_11 : decode cX6_nearest 11 = .ok (.aload_n 0, 1) := by decide +kernel
theorem dX6_nearest_12 : decode cX6_nearest 12 = .ok (.getfield 36, 3) := by decide +kernel
theorem dX6_nearest_15 : decode cX6_nearest 15 = .ok (.iload_n 1, 1) := by decide +kernel
theorem dX6_nearest_16 : decode cX6_nearest 16 = .ok (.invokevirtual 205, 3) := by decide +kernel
theorem dX6_nearest_19 : decode cX6_nearest 19 = .ok (.goto 4, 3) := by decide +kernel
theorem dX6_nearest_22 : decode cX6_nearest 22 = .ok (.iconst (-1), 1) := by decide +kernel
theorem dX6_nearest_23 : decode cX6_nearest 23 = .ok (.ireturn, 1) := by decide +kernel
theorem dX6_safe_0 : decode cX6_safe 0 = .ok (.aload_n 0, 1) := by decide +kernel
theorem dX6_safe_1 : decode cX6_safe 1 = .ok (.getfield 36, 3) := by decide +kernel
theorem dX6_safe_4 : decode cX6_safe 4 = .ok (.invokevirtual 115, 3) := by decide +kernel
theorem dX6_safe_7 : decode cX6_safe 7 = .ok (.ifCond .ne 6, 3) := by decide +kernel
theorem dX6_safe_10 : decode cX6_safe 10 = .ok (.bipush (-3), 2) := by decide +kernel
theorem dX6_safe_12 : decode cX6_safe 12 = .ok (.ireturn, 1) := by decide +kernel
theorem dX6_safe_13 : decode cX6_safe 13 = .ok (.aload_n 0, 1) := by decide +kernel
theorem dX6_safe_14 : decode cX6_safe 14 = .ok (.getfield 36, 3) := by decide +kernel
theorem dX6_safe_17 : decode cX6_safe 17 = .ok (.invokevirtual 208, 3) := by decide +kernel
theorem dX6_safe_20 : decode cX6_safe 20 = .ok (.ifCond .eq 7, 3) := by decide +kernel
theorem dX6_safe_23 : decode cX6_safe 23 = .ok (.iconst 0, 1) := by decide +kernel
theorem dX6_safe_24 : decode cX6_safe 24 = .ok (.goto 4, 3) := by decide +kernel
theorem dX6_safe_27 : decode cX6_safe 27 = .ok (.iconst 1, 1) := by decide +kernel
theorem dX6_safe_28 : decode cX6_safe 28 = .ok (.ireturn, 1) := by decide +kernel
theorem dX6_plans_0 : decode cX6_plans 0 = .ok (.aload_n 0, 1) := by decide +kernel
theorem dX6_plans_1 : decode cX6_plans 1 = .ok (.getfield 36, 3) := by decide +kernel
theorem dX6_plans_4 : decode cX6_plans 4 = .ok (.iload_n 1, 1) := by decide +kernel
theorem dX6_plans_5 : decode cX6_plans 5 = .ok (.iload_n 2, 1) := by decide +kernel
theorem dX6_plans_6 : decode cX6_plans 6 = .ok (.invokevirtual 94, 3) := by decide +kernel
theorem dX6_plans_9 : decode cX6_plans 9 = .ok (.ifCond .eq 22, 3) := by decide +kernel
theorem dX6_plans_12 : decode cX6_plans 12 = .ok (.aload_n 0, 1) := by decide +kernel
theorem dX6_plans_13 : decode cX6_plans 13 = .ok (.getfield 28, 3) := by decide +kernel
theorem dX6_plans_16 : decode cX6_plans 16 = .ok (.aload_n 0, 1) := by decide +kernel
theorem dX6_plans_17 : decode cX6_plans 17 = .ok (.getfield 36, 3) := by decide +kernel
theorem dX6_plans_20 : decode cX6_plans 20 = .ok (.iload_n 1, 1) := by decide +kernel
theorem dX6_plans_21 : decode cX6_plans 21 = .ok (.iload_n 2, 1) := by decide +kernel
theorem dX6_plans_22 : decode cX6_plans 22 = .ok (.invokevirtual 98, 3) := by decide +kernel
theorem dX6_plans_25 : decode cX6_plans 25 = .ok (.invokevirtual 211, 3) := by decide +kernel
theorem dX6_plans_28 : decode cX6_plans 28 = .ok (.goto 6, 3) := by decide +kernel
theorem dX6_plans_31 : decode cX6_plans 31 = .ok (.ldc2_w 215, 3) := by decide +kernel
theorem dX6_plans_34 : decode cX6_plans 34 = .ok (.lreturn, 1) := by decide +kernel
theorem dX6_sheet_0 : decode cX6_sheet 0 = .ok (.aload_n 0, 1) := by decide +kernel
theorem dX6_sheet_1 : decode cX6_sheet 1 = .ok (.iconst 0, 1) := by decide +kernel
theorem dX6_sheet_2 : decode cX6_sheet 2 = .ok (.putfield 147, 3) := by decide +kernel
theorem dX6_sheet_5 : decode cX6_sheet 5 = .ok (.aload_n 0, 1) := by decide +kernel
theorem dX6_sheet_6 : decode cX6_sheet 6 = .ok (.getfield 12, 3) := by decide +kernel
theorem dX6_sheet_9 : decode cX6_sheet 9 = .ok (.iload_n 1, 1) := by decide +kernel
theorem dX6_sheet_10 : decode cX6_sheet 10 = .ok (.invokevirtual 217, 3) := by decide +kernel
theorem dX6_sheet_13 : decode cX6_sheet 13 = .ok (.ifCond .ne 5, 3) := by decide +kernel
theorem dX6_sheet_16 : decode cX6_sheet 16 = .ok (.iconst (-1), 1) := by decide +kernel
theorem dX6_sheet_17 : decode cX6_sheet 17 = .ok (.ireturn, 1) := by decide +kernel
theorem dX6_sheet_18 : decode cX6_sheet 18 = .ok (.iload_n 2, 1) := by decide +kernel
theorem dX6_sheet_19 : decode cX6_sheet 19 = .ok (.ifCond .lt 14, 3) := by decide +kernel
theorem dX6_sheet_22 : decode cX6_sheet 22 = .ok (.iload_n 2, 1) := by decide +kernel
theorem dX6_sheet_23 : decode cX6_sheet 23 = .ok (.iconst 3, 1) := by decide +kernel
theorem dX6_sheet_24 : decode cX6_sheet 24 = .ok (.if_icmp .ge 9, 3) := by decide +kernel
theorem dX6_sheet_27 : decode cX6_sheet 27 = .ok (.iload_n 3, 1) := by decide +kernel
theorem dX6_sheet_28 : decode cX6_sheet 28 = .ok (.bipush 80, 2) := by decide +kernel
theorem dX6_sheet_30 : decode cX6_sheet 30 = .ok (.if_icmp .le 6, 3) := by decide +kernel
theorem dX6_sheet_33 : decode cX6_sheet 33 = .ok (.bipush (-2), 2) := by decide +kernel
theorem dX6_sheet_35 : decode cX6_sheet 35 = .ok (.ireturn, 1) := by decide +kernel
theorem dX6_sheet_36 : decode cX6_sheet 36 = .ok (.iload_n 3, 1) := by decide +kernel
theorem dX6_sheet_37 : decode cX6_sheet 37 = .ok (.ifCond .ge 9, 3) := by decide +kernel
theorem dX6_sheet_40 : decode cX6_sheet 40 = .ok (.aload_n 0, 1) := by decide +kernel
theorem dX6_sheet_41 : decode cX6_sheet 41 = .ok (.iconst 4, 1) := by decide +kernel
theorem dX6_sheet_42 : decode cX6_sheet 42 = .ok (.invokevirtual 218, 3) := by decide +kernel
theorem dX6_sheet_45 : decode cX6_sheet 45 = .ok (.ireturn, 1) := by decide +kernel
theorem dX6_sheet_46 : decode cX6_sheet 46 = .ok (.aload_n 0, 1) := by decide +kernel
theorem dX6_sheet_47 : decode cX6_sheet 47 = .ok (.getfield 12, 3) := by decide +kernel
theorem dX6_sheet_50 : decode cX6_sheet 50 = .ok (.iload_n 1, 1) := by decide +kernel
theorem dX6_sheet_51 : decode cX6_sheet 51 = .ok (.iload_n 2, 1) := by decide +kernel
theorem dX6_sheet_52 : decode cX6_sheet 52 = .ok (.iload_n 3, 1) := by decide +kernel
theorem dX6_sheet_53 : decode cX6_sheet 53 = .ok (.invokevirtual 221, 3) := by decide +kernel
theorem dX6_sheet_56 : decode cX6_sheet 56 = .ok (.iconst 1, 1) := by decide +kernel
theorem dX6_sheet_57 : decode cX6_sheet 57 = .ok (.ireturn, 1) := by decide +kernel
theorem dX6_lose_0 : decode cX6_lose 0 = .ok (.aload_n 0, 1) := by decide +kernel
theorem dX6_lose_1 : decode cX6_lose 1 = .ok (.getfield 12, 3) := by decide +kernel
theorem dX6_lose_4 : decode cX6_lose 4 = .ok (.iload_n 1, 1) := by decide +kernel
theorem dX6_lose_5 : decode cX6_lose 5 = .ok (.invokevirtual 217, 3) := by decide +kernel
theorem dX6_lose_8 : decode cX6_lose 8 = .ok (.ifCond .ne 5, 3) := by decide +kernel
theorem dX6_lose_11 : decode cX6_lose 11 = .ok (.iconst (-1), 1) := by decide +kernel
theorem dX6_lose_12 : decode cX6_lose 12 = .ok (.ireturn, 1) := by decide +kernel
theorem dX6_lose_13 : decode cX6_lose 13 = .ok (.aload_n 0, 1) := by decide +kernel
theorem dX6_lose_14 : decode cX6_lose 14 = .ok (.getfield 12, 3) := by decide +kernel
theorem dX6_lose_17 : decode cX6_lose 17 = .ok (.iload_n 1, 1) := by decide +kernel
theorem dX6_lose_18 : decode cX6_lose 18 = .ok (.invokevirtual 225, 3) := by decide +kernel
theorem dX6_lose_21 : decode cX6_lose 21 = .ok (.ifCond .eq 7, 3) := by decide +kernel
theorem dX6_lose_24 : decode cX6_lose 24 = .ok (.iconst 0, 1) := by decide +kernel
theorem dX6_lose_25 : decode cX6_lose 25 = .ok (.goto 4, 3) := by decide +kernel
theorem dX6_lose_28 : decode cX6_lose 28 = .ok (.iconst 1, 1) := by decide +kernel
theorem dX6_lose_29 : decode cX6_lose 29 = .ok (.istore_n 2, 1) := by decide +kernel
theorem dX6_lose_30 : decode cX6_lose 30 = .ok (.aload_n 0, 1) := by decide +kernel
theorem dX6_lose_31 : decode cX6_lose 31 = .ok (.getfield 12, 3) := by decide +kernel
theorem dX6_lose_34 : decode cX6_lose 34 = .ok (.iload_n 1, 1) := by decide +kernel
theorem dX6_lose_35 : decode cX6_lose 35 = .ok (.invokevirtual 228, 3) := by decide +kernel
theorem dX6_lose_38 : decode cX6_lose 38 = .ok (.iload_n 2, 1) := by decide +kernel
theorem dX6_lose_39 : decode cX6_lose 39 = .ok (.ireturn, 1) := by decide +kernel
theorem dX6_put_0 : decode cX6_put 0 = .ok (.aload_n 0, 1) := by decide +kernel
theorem dX6_put_1 : decode cX6_put 1 = .ok (.iconst 0, 1) := by decide +kernel
theorem dX6_put_2 : decode cX6_put 2 = .ok (.putfield 147, 3) := by decide +kernel
theorem dX6_put_5 : decode cX6_put 5 = .ok (.aload_n 0, 1) := by decide +kernel
theorem dX6_put_6 : decode cX6_put 6 = .ok (.getfield 12, 3) := by decide +kernel
theorem dX6_put_9 : decode cX6_put 9 = .ok (.iload_n 1, 1) := by decide +kernel
theorem dX6_put_10 : decode cX6_put 10 = .ok (.invokevirtual 217, 3) := by decide +kernel
theorem dX6_put_13 : decode cX6_put 13 = .ok (.ifCond .ne 5, 3) := by decide +kernel
theorem dX6_put_16 : decode cX6_put 16 = .ok (.iconst (-1), 1) := by decide +kernel
theorem dX6_put_17 : decode cX6_put 17 = .ok (.ireturn, 1) := by decide +kernel
theorem dX6_put_18 : decode cX6_put 18 = .ok (.aload_n 0, 1) := by decide +kernel
theorem dX6_put_19 : decode cX6_put 19 = .ok (.getfield 12, 3) := by decide +kernel
theorem dX6_put_22 : decode cX6_put 22 = .ok (.iload_n 1, 1) := by decide +kernel
theorem dX6_put_23 : decode cX6_put 23 = .ok (.aload_n 0, 1) := by decide +kernel
theorem dX6_put_24 : decode cX6_put 24 = .ok (.getfield 12, 3) := by decide +kernel
theorem dX6_put_27 : decode cX6_put 27 = .ok (.iload_n 1, 1) := by decide +kernel
theorem dX6_put_28 : decode cX6_put 28 = .ok (.invokevirtual 232, 3) := by decide +kernel
theorem dX6_put_31 : decode cX6_put 31 = .ok (.iload_n 2, 1) := by decide +kernel
theorem dX6_put_32 : decode cX6_put 32 = .ok (.iconst 1, 1) := by decide +kernel
theorem dX6_put_33 : decode cX6_put 33 = .ok (.invokevirtual 235, 3) := by decide +kernel
theorem dX6_put_36 : decode cX6_put 36 = .ok (.istore 4, 2) := by decide +kernel
theorem dX6_put_38 : decode cX6_put 38 = .ok (.iload 4, 2) := by decide +kernel
theorem dX6_put_40 : decode cX6_put 40 = .ok (.ifCond .eq 10, 3) := by decide +kernel
theorem dX6_put_43 : decode cX6_put 43 = .ok (.aload_n 0, 1) := by decide +kernel
theorem dX6_put_44 : decode cX6_put 44 = .ok (.iload 4, 2) := by decide +kernel
theorem dX6_put_46 : decode cX6_put 46 = .ok (.invokevirtual 218, 3) := by decide +kernel
theorem dX6_put_49 : decode cX6_put 49 = .ok (.ireturn, 1) := by decide +kernel
theorem dX6_put_50 : decode cX6_put 50 = .ok (.aload_n 0, 1) := by decide +kernel
theorem dX6_put_51 : decode cX6_put 51 = .ok (.getfield 12, 3) := by decide +kernel
theorem dX6_put_54 : decode cX6_put 54 = .ok (.iload_n 1, 1) := by decide +kernel
theorem dX6_put_55 : decode cX6_put 55 = .ok (.iload_n 2, 1) := by decide +kernel
theorem dX6_put_56 : decode cX6_put 56 = .ok (.iload_n 3, 1) := by decide +kernel
theorem dX6_put_57 : decode cX6_put 57 = .ok (.invokevirtual 239, 3) := by decide +kernel
theorem dX6_put_60 : decode cX6_put 60 = .ok (.iconst 1, 1) := by decide +kernel
theorem dX6_put_61 : decode cX6_put 61 = .ok (.ireturn, 1) := by decide +kernel
theorem dX6_cell_0 : decode cX6_cell 0 = .ok (.aload_n 0, 1) := by decide +kernel
theorem dX6_cell_1 : decode cX6_cell 1 = .ok (.iload_n 1, 1) := by decide +kernel
theorem dX6_cell_2 : decode cX6_cell 2 = .ok (.iload_n 3, 1) := by decide +kernel
theorem dX6_cell_3 : decode cX6_cell 3 = .ok (.iconst 0, 1) := by decide +kernel
theorem dX6_cell_4 : decode cX6_cell 4 = .ok (.iload_n 2, 1) := by decide +kernel
theorem dX6_cell_5 : decode cX6_cell 5 = .ok (.iconst 1, 1) := by decide +kernel
theorem dX6_cell_6 : decode cX6_cell 6 = .ok (.invokevirtual 53, 3) := by decide +kernel
theorem dX6_cell_9 : decode cX6_cell 9 = .ok (.ifCond .eq 9, 3) := by decide +kernel
theorem dX6_cell_12 : decode cX6_cell 12 = .ok (.ldc2_w 215, 3) := by decide +kernel
theorem dX6_cell_15 : decode cX6_cell 15 = .ok (.goto 10, 3) := by decide +kernel
theorem dX6_cell_18 : decode cX6_cell 18 = .ok (.aload_n 0, 1) := by decide +kernel
theorem dX6_cell_19 : decode cX6_cell 19 = .ok (.getfield 49, 3) := by decide +kernel
theorem dX6_cell_22 : decode cX6_cell 22 = .ok (.iconst 0, 1) := by decide +kernel
theorem dX6_cell_23 : decode cX6_cell 23 = .ok (.iaload, 1) := by decide +kernel
theorem dX6_cell_24 : decode cX6_cell 24 = .ok (.i2l, 1) := by decide +kernel
theorem dX6_cell_25 : decode cX6_cell 25 = .ok (.lreturn, 1) := by decide +kernel
theorem dX6_copy_0 : decode cX6_copy 0 = .ok (.aload_n 0, 1) := by decide +kernel
theorem dX6_copy_1 : decode cX6_copy 1 = .ok (.iconst 0, 1) := by decide +kernel
theorem dX6_copy_2 : decode cX6_copy 2 = .ok (.putfield 147, 3) := by decide +kernel
theorem dX6_copy_5 : decode cX6_copy 5 = .ok (.aload_n 0, 1) := by decide +kernel
theorem dX6_copy_6 : decode cX6_copy 6 = .ok (.getfield 12, 3) := by decide +kernel
theorem dX6_copy_9 : decode cX6_copy 9 = .ok (.iload_n 1, 1) := by decide +kernel
theorem dX6_copy_10 : decode cX6_copy 10 = .ok (.invokevirtual 217, 3) := by decide +kernel
theorem dX6_copy_13 : decode cX6_copy 13 = .ok (.ifCond .eq 14, 3) := by decide +kernel
theorem dX6_copy_16 : decode cX6_copy 16 = .ok (.aload_n 0, 1) := by decide +kernel
theorem dX6_copy_17 : decode cX6_copy 17 = .ok (.getfield 12, 3) := by decide +kernel
theorem dX6_copy_20 : decode cX6_copy 20 = .ok (.iload_n 3, 1) := by decide +kernel
theorem dX6_copy_21 : decode cX6_copy 21 = .ok (.invokevirtual 217, 3) := by decide +kernel
theorem dX6_copy_24 : decode cX6_copy 24 = .ok (.ifCond .ne 5, 3) := by decide +kernel
theorem dX6_copy_27 : decode cX6_copy 27 = .ok (.iconst (-1), 1) := by decide +kernel
theorem dX6_copy_28 : decode cX6_copy 28 = .ok (.ireturn, 1) := by decide +kernel
theorem dX6_copy_29 : decode cX6_copy 29 = .ok (.aload_n 0, 1) := by decide +kernel
theorem dX6_copy_30 : decode cX6_copy 30 = .ok (.getfield 12, 3) := by decide +kernel
theorem dX6_copy_33 : decode cX6_copy 33 = .ok (.iload_n 1, 1) := by decide +kernel
theorem dX6_copy_34 : decode cX6_copy 34 = .ok (.iload_n 2, 1) := by decide +kernel
theorem dX6_copy_35 : decode cX6_copy 35 = .ok (.iload_n 3, 1) := by decide +kernel
theorem dX6_copy_36 : decode cX6_copy 36 = .ok (.iload 4, 2) := by decide +kernel
theorem dX6_copy_38 : decode cX6_copy 38 = .ok (.iload 5, 2) := by decide +kernel
theorem dX6_copy_40 : decode cX6_copy 40 = .ok (.invokevirtual 242, 3) := by decide +kernel
theorem dX6_copy_43 : decode cX6_copy 43 = .ok (.istore 6, 2) := by decide +kernel
theorem dX6_copy_45 : decode cX6_copy 45 = .ok (.iload 6, 2) := by decide +kernel
theorem dX6_copy_47 : decode cX6_copy 47 = .ok (.ifCond .eq 10, 3) := by decide +kernel
theorem dX6_copy_50 : decode cX6_copy 50 = .ok (.aload_n 0, 1) := by decide +kernel
theorem dX6_copy_51 : decode cX6_copy 51 = .ok (.iload 6, 2) := by decide +kernel
theorem dX6_copy_53 : decode cX6_copy 53 = .ok (.invokevirtual 218, 3) := by decide +kernel
theorem dX6_copy_56 : decode cX6_copy 56 = .ok (.ireturn, 1) := by decide +kernel
theorem dX6_copy_57 : decode cX6_copy 57 = .ok (.aload_n 0, 1) := by decide +kernel
theorem dX6_copy_58 : decode cX6_copy 58 = .ok (.getfield 12, 3) := by decide +kernel
theorem dX6_copy_61 : decode cX6_copy 61 = .ok (.iload_n 1, 1) := by decide +kernel
theorem dX6_copy_62 : decode cX6_copy 62 = .ok (.iload_n 2, 1) := by decide +kernel
theorem dX6_copy_63 : decode cX6_copy 63 = .ok (.iload_n 3, 1) := by decide +kernel
theorem dX6_copy_64 : decode cX6_copy 64 = .ok (.iload 4, 2) := by decide +kernel
theorem dX6_copy_66 : decode cX6_copy 66 = .ok (.iload 5, 2) := by decide +kernel
theorem dX6_copy_68 : decode cX6_copy 68 = .ok (.invokevirtual 246, 3) := by decide +kernel
theorem dX6_copy_71 : decode cX6_copy 71 = .ok (.iload 5, 2) := by decide +kernel
theorem dX6_copy_73 : decode cX6_copy 73 = .ok (.ireturn, 1) := by decide +kernel
theorem dX6_tell_0 : decode cX6_tell 0 = .ok (.aload_n 0, 1) := by decide +kernel
theorem dX6_tell_1 : decode cX6_tell 1 = .ok (.getfield 41, 3) := by decide +kernel
theorem dX6_tell_4 : decode cX6_tell 4 = .ok (.iload_n 1, 1) := by decide +kernel
theorem dX6_tell_5 : decode cX6_tell 5 = .ok (.invokevirtual 125, 3) := by decide +kernel
theorem dX6_tell_8 : decode cX6_tell 8 = .ok (.ifCond .ne 5, 3) := by decide +kernel
theorem dX6_tell_11 : decode cX6_tell 11 = .ok (.iconst (-1), 1) := by decide +kernel
theorem dX6_tell_12 : decode cX6_tell 12 = .ok (.ireturn, 1) := by decide +kernel
theorem dX6_tell_13 : decode cX6_tell 13 = .ok (.aload_n 0, 1) := by decide +kernel
theorem dX6_tell_14 : decode cX6_tell 14 = .ok (.getfield 41, 3) := by decide +kernel
theorem dX6_tell_17 : decode cX6_tell 17 = .ok (.iload_n 1, 1) := by decide +kernel
theorem dX6_tell_18 : decode cX6_tell 18 = .ok (.invokevirtual 128, 3) := by decide +kernel
theorem dX6_tell_21 : decode cX6_tell 21 = .ok (.lookupswitch 39 #[(1, 33), (2, 27)], 27) := by decide +kernel
theorem dX6_tell_48 : decode cX6_tell 48 = .ok (.aload_n 0, 1) := by decide +kernel
theorem dX6_tell_49 : decode cX6_tell 49 = .ok (.iload_n 1, 1) := by decide +kernel
theorem dX6_tell_50 : decode cX6_tell 50 = .ok (.invokevirtual 250, 3) := by decide +kernel
theorem dX6_tell_53 : decode cX6_tell 53 = .ok (.ireturn, 1) := by decide +kernel
theorem dX6_tell_54 : decode cX6_tell 54 = .ok (.aload_n 0, 1) := by decide +kernel
theorem dX6_tell_55 : decode cX6_tell 55 = .ok (.iload_n 1, 1) := by decide +kernel
theorem dX6_tell_56 : decode cX6_tell 56 = .ok (.invokevirtual 253, 3) := by decide +kernel
theorem dX6_tell_59 : decode cX6_tell 59 = .ok (.ireturn, 1) := by decide +kernel
theorem dX6_tell_60 : decode cX6_tell 60 = .ok (.aload_n 0, 1) := by decide +kernel
theorem dX6_tell_61 : decode cX6_tell 61 = .ok (.iload_n 1, 1) := by decide +kernel
theorem dX6_tell_62 : decode cX6_tell 62 = .ok (.invokevirtual 256, 3) := by decide +kernel
theorem dX6_tell_65 : decode cX6_tell 65 = .ok (.ireturn, 1) := by decide +kernel
theorem dX6_lead_0 : decode cX6_lead 0 = .ok (.aload_n 0, 1) := by decide +kernel
theorem dX6_lead_1 : decode cX6_lead 1 = .ok (.getfield 41, 3) := by decide +kernel
theorem dX6_lead_4 : decode cX6_lead 4 = .ok (.iload_n 1, 1) := by decide +kernel
theorem dX6_lead_5 : decode cX6_lead 5 = .ok (.invokevirtual 125, 3) := by decide +kernel
theorem dX6_lead_8 : decode cX6_lead 8 = .ok (.ifCond .ne 5, 3) := by decide +kernel
theorem dX6_lead_11 : decode cX6_lead 11 = .ok (.iconst (-1), 1) := by decide +kernel
theorem dX6_lead_12 : decode cX6_lead 12 = .ok (.ireturn, 1) := by decide +kernel
theorem dX6_lead_13 : decode cX6_lead 13 = .ok (.aload_n 0, 1) := by decide +kernel
theorem dX6_lead_14 : decode cX6_lead 14 = .ok (.getfield 41, 3) := by decide +kernel
theorem dX6_lead_17 : decode cX6_lead 17 = .ok (.iload_n 1, 1) := by decide +kernel
theorem dX6_lead_18 : decode cX6_lead 18 = .ok (.invokevirtual 128, 3) := by decide +kernel
theorem dX6_lead_21 : decode cX6_lead 21 = .ok (.iconst 2, 1) := by decide +kernel
theorem dX6_lead_22 : decode cX6_lead 22 = .ok (.if_icmp .ne 11, 3) := by decide +kernel
theorem dX6_lead_25 : decode cX6_lead 25 = .ok (.aload_n 0, 1) := by decide +kernel
theorem dX6_lead_26 : decode cX6_lead 26 = .ok (.iconst 5, 1) := by decide +kernel
theorem dX6_lead_27 : decode cX6_lead 27 = .ok (.invokevirtual 259, 3) := by decide +kernel
theorem dX6_lead_30 : decode cX6_lead 30 = .ok (.bipush 60, 2) := by decide +kernel
theorem dX6_lead_32 : decode cX6_lead 32 = .ok (.ireturn, 1) := by decide +kernel
theorem dX6_lead_33 : decode cX6_lead 33 = .ok (.aload_n 0, 1) := by decide +kernel
theorem dX6_lead_34 : decode cX6_lead 34 = .ok (.iconst 4, 1) := by decide +kernel
theorem dX6_lead_35 : decode cX6_lead 35 = .ok (.invokevirtual 259, 3) := by decide +kernel
theorem dX6_lead_38 : decode cX6_lead 38 = .ok (.iload_n 1, 1) := by decide +kernel
theorem dX6_lead_39 : decode cX6_lead 39 = .ok (.ireturn, 1) := by decide +kernel
theorem dX6_as_0 : decode cX6_as 0 = .ok (.aload_n 0, 1) := by decide +kernel
theorem dX6_as_1 : decode cX6_as 1 = .ok (.iconst 0, 1) := by decide +kernel
theorem dX6_as_2 : decode cX6_as 2 = .ok (.putfield 147, 3) := by decide +kernel
theorem dX6_as_5 : decode cX6_as 5 = .ok (.aload_n 0, 1) := by decide +kernel
theorem dX6_as_6 : decode cX6_as 6 = .ok (.getfield 41, 3) := by decide +kernel
theorem dX6_as_9 : decode cX6_as 9 = .ok (.iload_n 1, 1) := by decide +kernel
theorem dX6_as_10 : decode cX6_as 10 = .ok (.invokevirtual 125, 3) := by decide +kernel
theorem dX6_as_13 : decode cX6_as 13 = .ok (.ifCond .ne 5, 3) := by decide +kernel
theorem dX6_as_16 : decode cX6_as 16 = .ok (.iconst (-1), 1) := by decide +kernel
theorem dX6_as_17 : decode cX6_as 17 = .ok (.ireturn, 1) := by decide +kernel
theorem dX6_as_18 : decode cX6_as 18 = .ok (.iload_n 2, 1) := by decide +kernel
theorem dX6_as_19 : decode cX6_as 19 = .ok (.ifCond .lt 8, 3) := by decide +kernel
theorem dX6_as_22 : decode cX6_as 22 = .ok (.iload_n 2, 1) := by decide +kernel
theorem dX6_as_23 : decode cX6_as 23 = .ok (.iconst 3, 1) := by decide +kernel
theorem dX6_as_24 : decode cX6_as 24 = .ok (.if_icmp .lt 6, 3) := by decide +kernel
theorem dX6_as_27 : decode cX6_as 27 = .ok (.bipush (-2), 2) := by decide +kernel
theorem dX6_as_29 : decode cX6_as 29 = .ok (.ireturn, 1) := by decide +kernel
theorem dX6_as_30 : decode cX6_as 30 = .ok (.aload_n 0, 1) := by decide +kernel
theorem dX6_as_31 : decode cX6_as 31 = .ok (.getfield 41, 3) := by decide +kernel
theorem dX6_as_34 : decode cX6_as 34 = .ok (.iload_n 1, 1) := by decide +kernel
theorem dX6_as_35 : decode cX6_as 35 = .ok (.iload_n 2, 1) := by decide +kernel
theorem dX6_as_36 : decode cX6_as 36 = .ok (.invokevirtual 262, 3) := by decide +kernel
theorem dX6_as_39 : decode cX6_as 39 = .ok (.ifCond .eq 7, 3) := by decide +kernel
theorem dX6_as_42 : decode cX6_as 42 = .ok (.iconst 1, 1) := by decide +kernel
theorem dX6_as_43 : decode cX6_as 43 = .ok (.goto 8, 3) := by decide +kernel
theorem dX6_as_46 : decode cX6_as 46 = .ok (.aload_n 0, 1) := by decide +kernel
theorem dX6_as_47 : decode cX6_as 47 = .ok (.iconst 2, 1) := by decide +kernel
theorem dX6_as_48 : decode cX6_as 48 = .ok (.invokevirtual 218, 3) := by decide +kernel
theorem dX6_as_51 : decode cX6_as 51 = .ok (.ireturn, 1) := by decide +kernel
theorem dX6_trace_0 : decode cX6_trace 0 = .ok (.aload_n 0, 1) := by decide +kernel
theorem dX6_trace_1 : decode cX6_trace 1 = .ok (.getfield 265, 3) := by decide +kernel
theorem dX6_trace_4 : decode cX6_trace 4 = .ok (.ireturn, 1) := by decide +kernel
theorem dX6_fault_0 : decode cX6_fault 0 = .ok (.aload_n 0, 1) := by decide +kernel
theorem dX6_fault_1 : decode cX6_fault 1 = .ok (.getfield 147, 3) := by decide +kernel
theorem dX6_fault_4 : decode cX6_fault 4 = .ok (.ireturn, 1) := by decide +kernel
theorem dX6_many_0 : decode cX6_many 0 = .ok (.iload_n 1, 1) := by decide +kernel
theorem dX6_many_1 : decode cX6_many 1 = .ok (.tableswitch 63 0 3 #[31, 39, 47, 55], 31) := by decide +kernel
theorem dX6_many_32 : decode cX6_many 32 = .ok (.aload_n 0, 1) := by decide +kernel
theorem dX6_many_33 : decode cX6_many 33 = .ok (.getfield 36, 3) := by decide +kernel
theorem dX6_many_36 : decode cX6_many 36 = .ok (.getfield 268, 3) := by decide +kernel
theorem dX6_many_39 : decode cX6_many 39 = .ok (.ireturn, 1) := by decide +kernel
theorem dX6_many_40 : decode cX6_many 40 = .ok (.aload_n 0, 1) := by decide +kernel
theorem dX6_many_41 : decode cX6_many 41 = .ok (.getfield 36, 3) := by decide +kernel
theorem dX6_many_44 : decode cX6_many 44 = .ok (.getfield 77, 3) := by decide +kernel
theorem dX6_many_47 : decode cX6_many 47 = .ok (.ireturn, 1) := by decide +kernel
theorem dX6_many_48 : decode cX6_many 48 = .ok (.aload_n 0, 1) := by decide +kernel
theorem dX6_many_49 : decode cX6_many 49 = .ok (.getfield 41, 3) := by decide +kernel
theorem dX6_many_52 : decode cX6_many 52 = .ok (.getfield 70, 3) := by decide +kernel
theorem dX6_many_55 : decode cX6_many 55 = .ok (.ireturn, 1) := by decide +kernel
theorem dX6_many_56 : decode cX6_many 56 = .ok (.aload_n 0, 1) := by decide +kernel
theorem dX6_many_57 : decode cX6_many 57 = .ok (.getfield 45, 3) := by decide +kernel
theorem dX6_many_60 : decode cX6_many 60 = .ok (.getfield 76, 3) := by decide +kernel
theorem dX6_many_63 : decode cX6_many 63 = .ok (.ireturn, 1) := by decide +kernel
theorem dX6_many_64 : decode cX6_many 64 = .ok (.bipush (-2), 2) := by decide +kernel
theorem dX6_many_66 : decode cX6_many 66 = .ok (.ireturn, 1) := by decide +kernel
theorem dX6_faulted_0 : decode cX6_faulted 0 = .ok (.aload_n 0, 1) := by decide +kernel
theorem dX6_faulted_1 : decode cX6_faulted 1 = .ok (.iload_n 1, 1) := by decide +kernel
theorem dX6_faulted_2 : decode cX6_faulted 2 = .ok (.putfield 147, 3) := by decide +kernel
theorem dX6_faulted_5 : decode cX6_faulted 5 = .ok (.bipush (-10), 2) := by decide +kernel
theorem dX6_faulted_7 : decode cX6_faulted 7 = .ok (.iload_n 1, 1) := by decide +kernel
theorem dX6_faulted_8 : decode cX6_faulted 8 = .ok (.isub, 1) := by decide +kernel
theorem dX6_faulted_9 : decode cX6_faulted 9 = .ok (.ireturn, 1) := by decide +kernel
theorem dX6_takeRow_0 : decode cX6_takeRow 0 = .ok (.aload_n 0, 1) := by decide +kernel
theorem dX6_takeRow_1 : decode cX6_takeRow 1 = .ok (.iconst 0, 1) := by decide +kernel
theorem dX6_takeRow_2 : decode cX6_takeRow 2 = .ok (.putfield 147, 3) := by decide +kernel
theorem dX6_takeRow_5 : decode cX6_takeRow 5 = .ok (.aload_n 0, 1) := by decide +kernel
theorem dX6_takeRow_6 : decode cX6_takeRow 6 = .ok (.getfield 12, 3) := by decide +kernel
theorem dX6_takeRow_9 : decode cX6_takeRow 9 = .ok (.iload_n 1, 1) := by decide +kernel
theorem dX6_takeRow_10 : decode cX6_takeRow 10 = .ok (.invokevirtual 217, 3) := by decide +kernel
theorem dX6_takeRow_13 : decode cX6_takeRow 13 = .ok (.ifCond .ne 5, 3) := by decide +kernel
theorem dX6_takeRow_16 : decode cX6_takeRow 16 = .ok (.iconst (-1), 1) := by decide +kernel
theorem dX6_takeRow_17 : decode cX6_takeRow 17 = .ok (.ireturn, 1) := by decide +kernel
theorem dX6_takeRow_18 : decode cX6_takeRow 18 = .ok (.iload_n 2, 1) := by decide +kernel
theorem dX6_takeRow_19 : decode cX6_takeRow 19 = .ok (.ifCond .lt 12, 3) := by decide +kernel
theorem dX6_takeRow_22 : decode cX6_takeRow 22 = .ok (.iload_n 2, 1) := by decide +kernel
theorem dX6_takeRow_23 : decode cX6_takeRow 23 = .ok (.iconst 3, 1) := by decide +kernel
theorem dX6_takeRow_24 : decode cX6_takeRow 24 = .ok (.if_icmp .ge 7, 3) := by decide +kernel
theorem dX6_takeRow_27 : decode cX6_takeRow 27 = .ok (.iload_n 3, 1) := by decide +kernel
theorem dX6_takeRow_28 : decode cX6_takeRow 28 = .ok (.ifCond .eq 6, 3) := by decide +kernel
theorem dX6_takeRow_31 : decode cX6_takeRow 31 = .ok (.bipush (-2), 2) := by decide +kernel
theorem dX6_takeRow_33 : decode cX6_takeRow 33 = .ok (.ireturn, 1) := by decide +kernel
theorem dX6_takeRow_34 : decode cX6_takeRow 34 = .ok (.aload_n 0, 1) := by decide +kernel
theorem dX6_takeRow_35 : decode cX6_takeRow 35 = .ok (.getfield 12, 3) := by decide +kernel
theorem dX6_takeRow_38 : decode cX6_takeRow 38 = .ok (.iload_n 1, 1) := by decide +kernel
theorem dX6_takeRow_39 : decode cX6_takeRow 39 = .ok (.iload_n 2, 1) := by decide +kernel
theorem dX6_takeRow_40 : decode cX6_takeRow 40 = .ok (.iload 4, 2) := by decide +kernel
theorem dX6_takeRow_42 : decode cX6_takeRow 42 = .ok (.iload 5, 2) := by decide +kernel
theorem dX6_takeRow_44 : decode cX6_takeRow 44 = .ok (.invokevirtual 235, 3) := by decide +kernel
theorem dX6_takeRow_47 : decode cX6_takeRow 47 = .ok (.istore 6, 2) := by decide +kernel
theorem dX6_takeRow_49 : decode cX6_takeRow 49 = .ok (.iload 6, 2) := by decide +kernel
theorem dX6_takeRow_51 : decode cX6_takeRow 51 = .ok (.ifCond .eq 10, 3) := by decide +kernel
theorem dX6_takeRow_54 : decode cX6_takeRow 54 = .ok (.aload_n 0, 1) := by decide +kernel
theorem dX6_takeRow_55 : decode cX6_takeRow 55 = .ok (.iload 6, 2) := by decide +kernel
theorem dX6_takeRow_57 : decode cX6_takeRow 57 = .ok (.invokevirtual 218, 3) := by decide +kernel
theorem dX6_takeRow_60 : decode cX6_takeRow 60 = .ok (.ireturn, 1) := by decide +kernel
theorem dX6_takeRow_61 : decode cX6_takeRow 61 = .ok (.aload_n 0, 1) := by decide +kernel
theorem dX6_takeRow_62 : decode cX6_takeRow 62 = .ok (.getfield 12, 3) := by decide +kernel
theorem dX6_takeRow_65 : decode cX6_takeRow 65 = .ok (.aload_n 0, 1) := by decide +kernel
theorem dX6_takeRow_66 : decode cX6_takeRow 66 = .ok (.getfield 49, 3) := by decide +kernel
theorem dX6_takeRow_69 : decode cX6_takeRow 69 = .ok (.iload_n 1, 1) := by decide +kernel
theorem dX6_takeRow_70 : decode cX6_takeRow 70 = .ok (.iload 4, 2) := by decide +kernel
theorem dX6_takeRow_72 : decode cX6_takeRow 72 = .ok (.iload 5, 2) := by decide +kernel
theorem dX6_takeRow_74 : decode cX6_takeRow 74 = .ok (.invokevirtual 271, 3) := by decide +kernel
theorem dX6_takeRow_77 : decode cX6_takeRow 77 = .ok (.iconst 0, 1) := by decide +kernel
theorem dX6_takeRow_78 : decode cX6_takeRow 78 = .ok (.ireturn, 1) := by decide +kernel
theorem dX6_takePlan_0 : decode cX6_takePlan 0 = .ok (.aload_n 0, 1) := by decide +kernel
theorem dX6_takePlan_1 : decode cX6_takePlan 1 = .ok (.iload_n 2, 1) := by decide +kernel
theorem dX6_takePlan_2 : decode cX6_takePlan 2 = .ok (.iload_n 3, 1) := by decide +kernel
theorem dX6_takePlan_3 : decode cX6_takePlan 3 = .ok (.iload 4, 2) := by decide +kernel
theorem dX6_takePlan_5 : decode cX6_takePlan 5 = .ok (.iload 5, 2) := by decide +kernel
theorem dX6_takePlan_7 : decode cX6_takePlan 7 = .ok (.iload_n 1, 1) := by decide +kernel
theorem dX6_takePlan_8 : decode cX6_takePlan 8 = .ok (.aload_n 0, 1) := by decide +kernel
theorem dX6_takePlan_9 : decode cX6_takePlan 9 = .ok (.getfield 41, 3) := by decide +kernel
theorem dX6_takePlan_12 : decode cX6_takePlan 12 = .ok (.getfield 70, 3) := by decide +kernel
theorem dX6_takePlan_15 : decode cX6_takePlan 15 = .ok (.imul, 1) := by decide +kernel
theorem dX6_takePlan_16 : decode cX6_takePlan 16 = .ok (.invokevirtual 53, 3) := by decide +kernel
theorem dX6_takePlan_19 : decode cX6_takePlan 19 = .ok (.istore 6, 2) := by decide +kernel
theorem dX6_takePlan_21 : decode cX6_takePlan 21 = .ok (.iload 6, 2) := by decide +kernel
theorem dX6_takePlan_23 : decode cX6_takePlan 23 = .ok (.ifCond .eq 6, 3) := by decide +kernel
theorem dX6_takePlan_26 : decode cX6_takePlan 26 = .ok (.iload 6, 2) := by decide +kernel
theorem dX6_takePlan_28 : decode cX6_takePlan 28 = .ok (.ireturn, 1) := by decide +kernel
theorem dX6_takePlan_29 : decode cX6_takePlan 29 = .ok (.aload_n 0, 1) := by decide +kernel
theorem dX6_takePlan_30 : decode cX6_takePlan 30 = .ok (.getfield 36, 3) := by decide +kernel
theorem dX6_takePlan_33 : decode cX6_takePlan 33 = .ok (.invokevirtual 115, 3) := by decide +kernel
theorem dX6_takePlan_36 : decode cX6_takePlan 36 = .ok (.ifCond .ne 6, 3) := by decide +kernel
theorem dX6_takePlan_39 : decode cX6_takePlan 39 = .ok (.bipush (-3), 2) := by decide +kernel
theorem dX6_takePlan_41 : decode cX6_takePlan 41 = .ok (.ireturn, 1) := by decide +kernel
theorem dX6_takePlan_42 : decode cX6_takePlan 42 = .ok (.aload_n 0, 1) := by decide +kernel
theorem dX6_takePlan_43 : decode cX6_takePlan 43 = .ok (.getfield 28, 3) := by decide +kernel
theorem dX6_takePlan_46 : decode cX6_takePlan 46 = .ok (.aload_n 0, 1) := by decide +kernel
theorem dX6_takePlan_47 : decode cX6_takePlan 47 = .ok (.getfield 49, 3) := by decide +kernel
theorem dX6_takePlan_50 : decode cX6_takePlan 50 = .ok (.iload_n 1, 1) := by decide +kernel
theorem dX6_takePlan_51 : decode cX6_takePlan 51 = .ok (.invokevirtual 275, 3) := by decide +kernel
theorem dX6_takePlan_54 : decode cX6_takePlan 54 = .ok (.ifCond .eq 7, 3) := by decide +kernel
theorem dX6_takePlan_57 : decode cX6_takePlan 57 = .ok (.iconst 0, 1) := by decide +kernel
theorem dX6_takePlan_58 : decode cX6_takePlan 58 = .ok (.goto 4, 3) := by decide +kernel
theorem dX6_takePlan_61 : decode cX6_takePlan 61 = .ok (.iconst (-1), 1) := by decide +kernel
theorem dX6_takePlan_62 : decode cX6_takePlan 62 = .ok (.ireturn, 1) := by decide +kernel
theorem dX6_rowIsWithin_0 : decode cX6_rowIsWithin 0 = .ok (.iconst 0, 1) := by decide +kernel
theorem dX6_rowIsWithin_1 : decode cX6_rowIsWithin 1 = .ok (.istore_n 3, 1) := by decide +kernel
theorem dX6_rowIsWithin_2 : decode cX6_rowIsWithin 2 = .ok (.iload_n 3, 1) := by decide +kernel
theorem dX6_rowIsWithin_3 : decode cX6_rowIsWithin 3 = .ok (.iload_n 2, 1) := by decide +kernel
theorem dX6_rowIsWithin_4 : decode cX6_rowIsWithin 4 = .ok (.if_icmp .ge 33, 3) := by decide +kernel
theorem dX6_rowIsWithin_7 : decode cX6_rowIsWithin 7 = .ok (.iload_n 3, 1) := by decide +kernel
theorem dX6_rowIsWithin_8 : decode cX6_rowIsWithin 8 = .ok (.aload_n 0, 1) := by decide +kernel
theorem dX6_rowIsWithin_9 : decode cX6_rowIsWithin 9 = .ok (.getfield 49, 3) := by decide +kernel
theorem dX6_rowIsWithin_12 : decode cX6_rowIsWithin 12 = .ok (.arraylength, 1) := by decide +kernel
theorem dX6_rowIsWithin_13 : decode cX6_rowIsWithin 13 = .ok (.if_icmp .ge 24, 3) := by decide +kernel
theorem dX6_rowIsWithin_16 : decode cX6_rowIsWithin 16 = .ok (.aload_n 0, 1) := by decide +kernel
theorem dX6_rowIsWithin_17 : decode cX6_rowIsWithin 17 = .ok (.getfield 49, 3) := by decide +kernel
theorem dX6_rowIsWithin_20 : decode cX6_rowIsWithin 20 = .ok (.iload_n 3, 1) := by decide +kernel
theorem dX6_rowIsWithin_21 : decode cX6_rowIsWithin 21 = .ok (.iaload, 1) := by decide +kernel
theorem dX6_rowIsWithin_22 : decode cX6_rowIsWithin 22 = .ok (.iload_n 1, 1) := by decide +kernel
theorem dX6_rowIsWithin_23 : decode cX6_rowIsWithin 23 = .ok (.iconst (-1), 1) := by decide +kernel
theorem dX6_rowIsWithin_24 : decode cX6_rowIsWithin 24 = .ok (.ixor, 1) := by decide +kernel
theorem dX6_rowIsWithin_25 : decode cX6_rowIsWithin 25 = .ok (.iand, 1) := by decide +kernel
theorem dX6_rowIsWithin_26 : decode cX6_rowIsWithin 26 = .ok (.ifCond .eq 5, 3) := by decide +kernel
theorem dX6_rowIsWithin_29 : decode cX6_rowIsWithin 29 = .ok (.iconst 0, 1) := by decide +kernel
theorem dX6_rowIsWithin_30 : decode cX6_rowIsWithin 30 = .ok (.ireturn, 1) := by decide +kernel
theorem dX6_rowIsWithin_31 : decode cX6_rowIsWithin 31 = .ok (.iinc 3 1, 3) := by decide +kernel
theorem dX6_rowIsWithin_34 : decode cX6_rowIsWithin 34 = .ok (.goto (-32), 3) := by decide +kernel
theorem dX6_rowIsWithin_37 : decode cX6_rowIsWithin 37 = .ok (.iconst 1, 1) := by decide +kernel
theorem dX6_rowIsWithin_38 : decode cX6_rowIsWithin 38 = .ok (.ireturn, 1) := by decide +kernel
theorem dX6_leaveTrace_0 : decode cX6_leaveTrace 0 = .ok (.aload_n 0, 1) := by decide +kernel
theorem dX6_leaveTrace_1 : decode cX6_leaveTrace 1 = .ok (.bipush 31, 2) := by decide +kernel
theorem dX6_leaveTrace_3 : decode cX6_leaveTrace 3 = .ok (.aload_n 0, 1) := by decide +kernel
theorem dX6_leaveTrace_4 : decode cX6_leaveTrace 4 = .ok (.getfield 265, 3) := by decide +kernel
theorem dX6_leaveTrace_7 : decode cX6_leaveTrace 7 = .ok (.imul, 1) := by decide +kernel
theorem dX6_leaveTrace_8 : decode cX6_leaveTrace 8 = .ok (.iload_n 1, 1) := by decide +kernel
theorem dX6_leaveTrace_9 : decode cX6_leaveTrace 9 = .ok (.iadd, 1) := by decide +kernel
theorem dX6_leaveTrace_10 : decode cX6_leaveTrace 10 = .ok (.putfield 265, 3) := by decide +kernel
theorem dX6_leaveTrace_13 : decode cX6_leaveTrace 13 = .ok (.return_, 1) := by decide +kernel
theorem dX6_tellAsDancer_0 : decode cX6_tellAsDancer 0 = .ok (.aload_n 0, 1) := by decide +kernel
theorem dX6_tellAsDancer_1 : decode cX6_tellAsDancer 1 = .ok (.iconst 1, 1) := by decide +kernel
theorem dX6_tellAsDancer_2 : decode cX6_tellAsDancer 2 = .ok (.invokevirtual 259, 3) := by decide +kernel
theorem dX6_tellAsDancer_5 : decode cX6_tellAsDancer 5 = .ok (.aload_n 0, 1) := by decide +kernel
theorem dX6_tellAsDancer_6 : decode cX6_tellAsDancer 6 = .ok (.getfield 41, 3) := by decide +kernel
theorem dX6_tellAsDancer_9 : decode cX6_tellAsDancer 9 = .ok (.iload_n 1, 1) := by decide +kernel
theorem dX6_tellAsDancer_10 : decode cX6_tellAsDancer 10 = .ok (.invokevirtual 131, 3) := by decide +kernel
theorem dX6_tellAsDancer_13 : decode cX6_tellAsDancer 13 = .ok (.ireturn, 1) := by decide +kernel
theorem dX6_tellAsLimper_0 : decode cX6_tellAsLimper 0 = .ok (.aload_n 0, 1) := by decide +kernel
theorem dX6_tellAsLimper_1 : decode cX6_tellAsLimper 1 = .ok (.iconst 2, 1) := by decide +kernel
theorem dX6_tellAsLimper_2 : decode cX6_tellAsLimper 2 = .ok (.invokevirtual 259, 3) := by decide +kernel
theorem dX6_tellAsLimper_5 : decode cX6_tellAsLimper 5 = .ok (.aload_n 0, 1) := by decide +kernel
theorem dX6_tellAsLimper_6 : decode cX6_tellAsLimper 6 = .ok (.iload_n 1, 1) := by decide +kernel
theorem dX6_tellAsLimper_7 : decode cX6_tellAsLimper 7 = .ok (.invokevirtual 256, 3) := by decide +kernel
theorem dX6_tellAsLimper_10 : decode cX6_tellAsLimper 10 = .ok (.bipush 100, 2) := by decide +kernel
theorem dX6_tellAsLimper_12 : decode cX6_tellAsLimper 12 = .ok (.iadd, 1) := by decide +kernel
theorem dX6_tellAsLimper_13 : decode cX6_tellAsLimper 13 = .ok (.ireturn, 1) := by decide +kernel
theorem dX6_tellAsChild_0 : decode cX6_tellAsChild 0 = .ok (.aload_n 0, 1) := by decide +kernel
theorem dX6_tellAsChild_1 : decode cX6_tellAsChild 1 = .ok (.iconst 3, 1) := by decide +kernel
theorem dX6_tellAsChild_2 : decode cX6_tellAsChild 2 = .ok (.invokevirtual 259, 3) := by decide +kernel
theorem dX6_tellAsChild_5 : decode cX6_tellAsChild 5 = .ok (.aload_n 0, 1) := by decide +kernel
theorem dX6_tellAsChild_6 : decode cX6_tellAsChild 6 = .ok (.iload_n 1, 1) := by decide +kernel
theorem dX6_tellAsChild_7 : decode cX6_tellAsChild 7 = .ok (.invokevirtual 253, 3) := by decide +kernel
theorem dX6_tellAsChild_10 : decode cX6_tellAsChild 10 = .ok (.istore_n 2, 1) := by decide +kernel
theorem dX6_tellAsChild_11 : decode cX6_tellAsChild 11 = .ok (.iload_n 2, 1) := by decide +kernel
theorem dX6_tellAsChild_12 : decode cX6_tellAsChild 12 = .ok (.aload_n 0, 1) := by decide +kernel
theorem dX6_tellAsChild_13 : decode cX6_tellAsChild 13 = .ok (.iload_n 1, 1) := by decide +kernel
theorem dX6_tellAsChild_14 : decode cX6_tellAsChild 14 = .ok (.invokevirtual 256, 3) := by decide +kernel
theorem dX6_tellAsChild_17 : decode cX6_tellAsChild 17 = .ok (.iadd, 1) := by decide +kernel
theorem dX6_tellAsChild_18 : decode cX6_tellAsChild 18 = .ok (.ireturn, 1) := by decide +kernel
