theorem dJ6_bitCount_0f7a4_0 : decode cJ6_bitCount_0f7a4 0 = .ok (.iload_n 0, 1) := by decide +kernel
theorem dJ6_bitCount_0f7a4_1 : decode cJ6_bitCount_0f7a4 1 = .ok (.iload_n 0, 1) := by decide +kernel
theorem dJ6_bitCount_0f7a4_2 : decode cJ6_bitCount_0f7a4 2 = .ok (.iconst 1, 1) := by decide +kernel
theorem dJ6_bitCount_0f7a4_3 : decode cJ6_bitCount_0f7a4 3 = .ok (.iushr, 1) := by decide +kernel
theorem dJ6_bitCount_0f7a4_4 : decode cJ6_bitCount_0f7a4 4 = .ok (.ldc_w 265, 3) := by decide +kernel
theorem dJ6_bitCount_0f7a4_7 : decode cJ6_bitCount_0f7a4 7 = .ok (.iand, 1) := by decide +kernel
theorem dJ6_bitCount_0f7a4_8 : decode cJ6_bitCount_0f7a4 8 = .ok (.isub, 1) := by decide +kernel
theorem dJ6_bitCount_0f7a4_9 : decode cJ6_bitCount_0f7a4 9 = .ok (.istore_n 0, 1) := by decide +kernel
theorem dJ6_bitCount_0f7a4_10 : decode cJ6_bitCount_0f7a4 10 = .ok (.iload_n 0, 1) := by decide +kernel
theorem dJ6_bitCount_0f7a4_11 : decode cJ6_bitCount_0f7a4 11 = .ok (.ldc_w 266, 3) := by decide +kernel
theorem dJ6_bitCount_0f7a4_14 : decode cJ6_bitCount_0f7a4 14 = .ok (.iand, 1) := by decide +kernel
theorem dJ6_bitCount_0f7a4_15 : decode cJ6_bitCount_0f7a4 15 = .ok (.iload_n 0, 1) := by decide +kernel
theorem dJ6_bitCount_0f7a4_16 : decode cJ6_bitCount_0f7a4 16 = .ok (.iconst 2, 1) := by decide +kernel
theorem dJ6_bitCount_0f7a4_17 : decode cJ6_bitCount_0f7a4 17 = .ok (.iushr, 1) := by decide +kernel
theorem dJ6_bitCount_0f7a4_18 : decode cJ6_bitCount_0f7a4 18 = .ok (.ldc_w 266, 3) := by decide +kernel
theorem dJ6_bitCount_0f7a4_21 : decode cJ6_bitCount_0f7a4 21 = .ok (.iand, 1) := by decide +kernel
theorem dJ6_bitCount_0f7a4_22 : decode cJ6_bitCount_0f7a4 22 = .ok (.iadd, 1) := by decide +kernel
theorem dJ6_bitCount_0f7a4_23 : decode cJ6_bitCount_0f7a4 23 = .ok (.istore_n 0, 1) := by decide +kernel
theorem dJ6_bitCount_0f7a4_24 : decode cJ6_bitCount_0f7a4 24 = .ok (.iload_n 0, 1) := by decide +kernel
theorem dJ6_bitCount_0f7a4_25 : decode cJ6_bitCount_0f7a4 25 = .ok (.iload_n 0, 1) := by decide +kernel
theorem dJ6_bitCount_0f7a4_26 : decode cJ6_bitCount_0f7a4 26 = .ok (.iconst 4, 1) := by decide +kernel
theorem dJ6_bitCount_0f7a4_27 : decode cJ6_bitCount_0f7a4 27 = .ok (.iushr, 1) := by decide +kernel
theorem dJ6_bitCount_0f7a4_28 : decode cJ6_bitCount_0f7a4 28 = .ok (.iadd, 1) := by decide +kernel
theorem dJ6_bitCount_0f7a4_29 : decode cJ6_bitCount_0f7a4 29 = .ok (.ldc_w 267, 3) := by decide +kernel
theorem dJ6_bitCount_0f7a4_32 : decode cJ6_bitCount_0f7a4 32 = .ok (.iand, 1) := by decide +kernel
theorem dJ6_bitCount_0f7a4_33 : decode cJ6_bitCount_0f7a4 33 = .ok (.istore_n 0, 1) := by decide +kernel
theorem dJ6_bitCount_0f7a4_34 : decode cJ6_bitCount_0f7a4 34 = .ok (.iload_n 0, 1) := by decide +kernel
theorem dJ6_bitCount_0f7a4_35 : decode cJ6_bitCount_0f7a4 35 = .ok (.iload_n 0, 1) := by decide +kernel
theorem dJ6_bitCount_0f7a4_36 : decode cJ6_bitCount_0f7a4 36 = .ok (.bipush 8, 2) := by decide +kernel
theorem dJ6_bitCount_0f7a4_38 : decode cJ6_bitCount_0f7a4 38 = .ok (.iushr, 1) := by decide +kernel
theorem dJ6_bitCount_0f7a4_39 : decode cJ6_bitCount_0f7a4 39 = .ok (.iadd, 1) := by decide +kernel
theorem dJ6_bitCount_0f7a4_40 : decode cJ6_bitCount_0f7a4 40 = .ok (.istore_n 0, 1) := by decide +kernel
theorem dJ6_bitCount_0f7a4_41 : decode cJ6_bitCount_0f7a4 41 = .ok (.iload_n 0, 1) := by decide +kernel
theorem dJ6_bitCount_0f7a4_42 : decode cJ6_bitCount_0f7a4 42 = .ok (.iload_n 0, 1) := by decide +kernel
theorem dJ6_bitCount_0f7a4_43 : decode cJ6_bitCount_0f7a4 43 = .ok (.bipush 16, 2) := by decide +kernel
theorem dJ6_bitCount_0f7a4_45 : decode cJ6_bitCount_0f7a4 45 = .ok (.iushr, 1) := by decide +kernel
theorem dJ6_bitCount_0f7a4_46 : decode cJ6_bitCount_0f7a4 46 = .ok (.iadd, 1) := by decide +kernel
theorem dJ6_bitCount_0f7a4_47 : decode cJ6_bitCount_0f7a4 47 = .ok (.istore_n 0, 1) := by decide +kernel
theorem dJ6_bitCount_0f7a4_48 : decode cJ6_bitCount_0f7a4 48 = .ok (.iload_n 0, 1) := by decide +kernel
theorem dJ6_bitCount_0f7a4_49 : decode cJ6_bitCount_0f7a4 49 = .ok (.bipush 63, 2) := by decide +kernel
theorem dJ6_bitCount_0f7a4_51 : decode cJ6_bitCount_0f7a4 51 = .ok (.iand, 1) := by decide +kernel
theorem dJ6_bitCount_0f7a4_52 : decode cJ6_bitCount_0f7a4 52 = .ok (.ireturn, 1) := by decide +kernel
theorem dJ9_min_7cf53_0 : decode cJ9_min_7cf53 0 = .ok (.iload_n 0, 1) := by decide +kernel
theorem dJ9_min_7cf53_1 : decode cJ9_min_7cf53 1 = .ok (.iload_n 1, 1) := by decide +kernel
theorem dJ9_min_7cf53_2 : decode cJ9_min_7cf53 2 = .ok (.if_icmp .gt 7, 3) := by decide +kernel
theorem dJ9_min_7cf53_5 : decode cJ9_min_7cf53 5 = .ok (.iload_n 0, 1) := by decide +kernel
theorem dJ9_min_7cf53_6 : decode cJ9_min_7cf53 6 = .ok (.goto 4, 3) := by decide +kernel
theorem dJ9_min_7cf53_9 : decode cJ9_min_7cf53 9 = .ok (.iload_n 1, 1) := by decide +kernel
theorem dJ9_min_7cf53_10 : decode cJ9_min_7cf53 10 = .ok (.ireturn, 1) := by decide +kernel
theorem dJ7_rangeCheck_23922_0 : decode cJ7_rangeCheck_23922 0 = .ok (.iload_n 1, 1) := by decide +kernel
theorem dJ7_rangeCheck_23922_1 : decode cJ7_rangeCheck_23922 1 = .ok (.iload_n 2, 1) := by decide +kernel
theorem dJ7_rangeCheck_23922_2 : decode cJ7_rangeCheck_23922 2 = .ok (.if_icmp .le 44, 3) := by decide +kernel
theorem dJ7_rangeCheck_23922_5 : decode cJ7_rangeCheck_23922 5 = .ok (.new 43, 3) := by decide +kernel
theorem dJ7_rangeCheck_23922_8 : decode cJ7_rangeCheck_23922 8 = .ok (.dup, 1) := by decide +kernel
theorem dJ7_rangeCheck_23922_9 : decode cJ7_rangeCheck_23922 9 = .ok (.new 45, 3) := by decide +kernel
theorem dJ7_rangeCheck_23922_12 : decode cJ7_rangeCheck_23922 12 = .ok (.dup, 1) := by decide +kernel
theorem dJ7_rangeCheck_23922_13 : decode cJ7_rangeCheck_23922 13 = .ok (.invokespecial 47, 3) := by decide +kernel
theorem dJ7_rangeCheck_23922_16 : decode cJ7_rangeCheck_23922 16 = .ok (.ldc 48, 2) := by decide +kernel
theorem dJ7_rangeCheck_23922_18 : decode cJ7_rangeCheck_23922 18 = .ok (.invokevirtual 50, 3) := by decide +kernel
theorem dJ7_rangeCheck_23922_21 : decode cJ7_rangeCheck_23922 21 = .ok (.iload_n 1, 1) := by decide +kernel
theorem dJ7_rangeCheck_23922_22 : decode cJ7_rangeCheck_23922 22 = .ok (.invokevirtual 54, 3) := by decide +kernel
theorem dJ7_rangeCheck_23922_25 : decode cJ7_rangeCheck_23922 25 = .ok (.ldc 57, 2) := by decide +kernel
theorem dJ7_rangeCheck_23922_27 : decode cJ7_rangeCheck_23922 27 = .ok (.invokevirtual 50, 3) := by decide +kernel
theorem dJ7_rangeCheck_23922_30 : decode cJ7_rangeCheck_23922 30 = .ok (.iload_n 2, 1) := by decide +kernel
theorem dJ7_rangeCheck_23922_31 : decode cJ7_rangeCheck_23922 31 = .ok (.invokevirtual 54, 3) := by decide +kernel
theorem dJ7_rangeCheck_23922_34 : decode cJ7_rangeCheck_23922 34 = .ok (.ldc 59, 2) := by decide +kernel
theorem dJ7_rangeCheck_23922_36 : decode cJ7_rangeCheck_23922 36 = .ok (.invokevirtual 50, 3) := by decide +kernel
theorem dJ7_rangeCheck_23922_39 : decode cJ7_rangeCheck_23922 39 = .ok (.invokevirtual 61, 3) := by decide +kernel
theorem dJ7_rangeCheck_23922_42 : decode cJ7_rangeCheck_23922 42 = .ok (.invokespecial 65, 3) := by decide +kernel
theorem dJ7_rangeCheck_23922_45 : decode cJ7_rangeCheck_23922 45 = .ok (.athrow, 1) := by decide +kernel
theorem dJ7_rangeCheck_23922_46 : decode cJ7_rangeCheck_23922 46 = .ok (.iload_n 1, 1) := by decide +kernel
theorem dJ7_rangeCheck_23922_47 : decode cJ7_rangeCheck_23922 47 = .ok (.ifCond .ge 12, 3) := by decide +kernel
theorem dJ7_rangeCheck_23922_50 : decode cJ7_rangeCheck_23922 50 = .ok (.new 68, 3) := by decide +kernel
theorem dJ7_rangeCheck_23922_53 : decode cJ7_rangeCheck_23922 53 = .ok (.dup, 1) := by decide +kernel
theorem dJ7_rangeCheck_23922_54 : decode cJ7_rangeCheck_23922 54 = .ok (.iload_n 1, 1) := by decide +kernel
theorem dJ7_rangeCheck_23922_55 : decode cJ7_rangeCheck_23922 55 = .ok (.invokespecial 70, 3) := by decide +kernel
theorem dJ7_rangeCheck_23922_58 : decode cJ7_rangeCheck_23922 58 = .ok (.athrow, 1) := by decide +kernel
theorem dJ7_rangeCheck_23922_59 : decode cJ7_rangeCheck_23922 59 = .ok (.iload_n 2, 1) := by decide +kernel
theorem dJ7_rangeCheck_23922_60 : decode cJ7_rangeCheck_23922 60 = .ok (.iload_n 0, 1) := by decide +kernel
theorem dJ7_rangeCheck_23922_61 : decode cJ7_rangeCheck_23922 61 = .ok (.if_icmp .le 12, 3) := by decide +kernel
theorem dJ7_rangeCheck_23922_64 : decode cJ7_rangeCheck_23922 64 = .ok (.new 68, 3) := by decide +kernel
theorem dJ7_rangeCheck_23922_67 : decode cJ7_rangeCheck_23922 67 = .ok (.dup, 1) := by decide +kernel
theorem dJ7_rangeCheck_23922_68 : decode cJ7_rangeCheck_23922 68 = .ok (.iload_n 2, 1) := by decide +kernel
theorem dJ7_rangeCheck_23922_69 : decode cJ7_rangeCheck_23922 69 = .ok (.invokespecial 70, 3) := by decide +kernel
theorem dJ7_rangeCheck_23922_72 : decode cJ7_rangeCheck_23922 72 = .ok (.athrow, 1) := by decide +kernel
theorem dJ7_rangeCheck_23922_73 : decode cJ7_rangeCheck_23922 73 = .ok (.return_, 1) := by decide +kernel
theorem dJ7_fill_d0a16_0 : decode cJ7_fill_d0a16 0 = .ok (.iconst 0, 1) := by decide +kernel
theorem dJ7_fill_d0a16_1 : decode cJ7_fill_d0a16 1 = .ok (.istore_n 3, 1) := by decide +kernel
theorem dJ7_fill_d0a16_2 : decode cJ7_fill_d0a16 2 = .ok (.aload_n 0, 1) := by decide +kernel
theorem dJ7_fill_d0a16_3 : decode cJ7_fill_d0a16 3 = .ok (.arraylength, 1) := by decide +kernel
theorem dJ7_fill_d0a16_4 : decode cJ7_fill_d0a16 4 = .ok (.istore 4, 2) := by decide +kernel
theorem dJ7_fill_d0a16_6 : decode cJ7_fill_d0a16 6 = .ok (.iload_n 3, 1) := by decide +kernel
theorem dJ7_fill_d0a16_7 : decode cJ7_fill_d0a16 7 = .ok (.iload 4, 2) := by decide +kernel
theorem dJ7_fill_d0a16_9 : decode cJ7_fill_d0a16 9 = .ok (.if_icmp .ge 13, 3) := by decide +kernel
theorem dJ7_fill_d0a16_12 : decode cJ7_fill_d0a16 12 = .ok (.aload_n 0, 1) := by decide +kernel
theorem dJ7_fill_d0a16_13 : decode cJ7_fill_d0a16 13 = .ok (.iload_n 3, 1) := by decide +kernel
theorem dJ7_fill_d0a16_14 : decode cJ7_fill_d0a16 14 = .ok (.lload_n 1, 1) := by decide +kernel
theorem dJ7_fill_d0a16_15 : decode cJ7_fill_d0a16 15 = .ok (.lastore, 1) := by decide +kernel
theorem dJ7_fill_d0a16_16 : decode cJ7_fill_d0a16 16 = .ok (.iinc 3 1, 3) := by decide +kernel
theorem dJ7_fill_d0a16_19 : decode cJ7_fill_d0a16 19 = .ok (.goto (-13), 3) := by decide +kernel
theorem dJ7_fill_d0a16_22 : decode cJ7_fill_d0a16 22 = .ok (.return_, 1) := by decide +kernel
theorem dJ7_fill_53178_0 : decode cJ7_fill_53178 0 = .ok (.iconst 0, 1) := by decide +kernel
theorem dJ7_fill_53178_1 : decode cJ7_fill_53178 1 = .ok (.istore_n 2, 1) := by decide +kernel
theorem dJ7_fill_53178_2 : decode cJ7_fill_53178 2 = .ok (.aload_n 0, 1) := by decide +kernel
theorem dJ7_fill_53178_3 : decode cJ7_fill_53178 3 = .ok (.arraylength, 1) := by decide +kernel
theorem dJ7_fill_53178_4 : decode cJ7_fill_53178 4 = .ok (.istore_n 3, 1) := by decide +kernel
theorem dJ7_fill_53178_5 : decode cJ7_fill_53178 5 = .ok (.iload_n 2, 1) := by decide +kernel
theorem dJ7_fill_53178_6 : decode cJ7_fill_53178 6 = .ok (.iload_n 3, 1) := by decide +kernel
theorem dJ7_fill_53178_7 : decode cJ7_fill_53178 7 = .ok (.if_icmp .ge 13, 3) := by decide +kernel
theorem dJ7_fill_53178_10 : decode cJ7_fill_53178 10 = .ok (.aload_n 0, 1) := by decide +kernel
theorem dJ7_fill_53178_11 : decode cJ7_fill_53178 11 = .ok (.iload_n 2, 1) := by decide +kernel
theorem dJ7_fill_53178_12 : decode cJ7_fill_53178 12 = .ok (.iload_n 1, 1) := by decide +kernel
theorem dJ7_fill_53178_13 : decode cJ7_fill_53178 13 = .ok (.iastore, 1) := by decide +kernel
theorem dJ7_fill_53178_14 : decode cJ7_fill_53178 14 = .ok (.iinc 2 1, 3) := by decide +kernel
theorem dJ7_fill_53178_17 : decode cJ7_fill_53178 17 = .ok (.goto (-12), 3) := by decide +kernel
theorem dJ7_fill_53178_20 : decode cJ7_fill_53178 20 = .ok (.return_, 1) := by decide +kernel
theorem dJ7_fill_fda19_0 : decode cJ7_fill_fda19 0 = .ok (.aload_n 0, 1) := by decide +kernel
theorem dJ7_fill_fda19_1 : decode cJ7_fill_fda19 1 = .ok (.arraylength, 1) := by decide +kernel
theorem dJ7_fill_fda19_2 : decode cJ7_fill_fda19 2 = .ok (.iload_n 1, 1) := by decide +kernel
theorem dJ7_fill_fda19_3 : decode cJ7_fill_fda19 3 = .ok (.iload_n 2, 1) := by decide +kernel
theorem dJ7_fill_fda19_4 : decode cJ7_fill_fda19 4 = .ok (.invokestatic 13, 3) := by decide +kernel
theorem dJ7_fill_fda19_7 : decode cJ7_fill_fda19 7 = .ok (.iload_n 1, 1) := by decide +kernel
theorem dJ7_fill_fda19_8 : decode cJ7_fill_fda19 8 = .ok (.istore 4, 2) := by decide +kernel
theorem dJ7_fill_fda19_10 : decode cJ7_fill_fda19 10 = .ok (.iload 4, 2) := by decide +kernel
theorem dJ7_fill_fda19_12 : decode cJ7_fill_fda19 12 = .ok (.iload_n 2, 1) := by decide +kernel
theorem dJ7_fill_fda19_13 : decode cJ7_fill_fda19 13 = .ok (.if_icmp .ge 14, 3) := by decide +kernel
theorem dJ7_fill_fda19_16 : decode cJ7_fill_fda19 16 = .ok (.aload_n 0, 1) := by decide +kernel
theorem dJ7_fill_fda19_17 : decode cJ7_fill_fda19 17 = .ok (.iload 4, 2) := by decide +kernel
theorem dJ7_fill_fda19_19 : decode cJ7_fill_fda19 19 = .ok (.iload_n 3, 1) := by decide +kernel
theorem dJ7_fill_fda19_20 : decode cJ7_fill_fda19 20 = .ok (.iastore, 1) := by decide +kernel
theorem dJ7_fill_fda19_21 : decode cJ7_fill_fda19 21 = .ok (.iinc 4 1, 3) := by decide +kernel
theorem dJ7_fill_fda19_24 : decode cJ7_fill_fda19 24 = .ok (.goto (-14), 3) := by decide +kernel
theorem dJ7_fill_fda19_27 : decode cJ7_fill_fda19 27 = .ok (.return_, 1) := by decide +kernel
theorem dX0_init_0 : decode cX0_init 0 = .ok (.aload_n 0, 1) := by decide +kernel
theorem dX0_init_1 : decode cX0_init 1 = .ok (.invokespecial 3, 3) := by decide +kernel
theorem dX0_init_4 : decode cX0_init 4 = .ok (.aload_n 0, 1) := by decide +kernel
theorem dX0_init_5 : decode cX0_init 5 = .ok (.new 9, 3) := by decide +kernel
theorem dX0_init_8 : decode cX0_init 8 = .ok (.dup, 1) := by decide +kernel
theorem dX0_init_9 : decode cX0_init 9 = .ok (.invokespecial 11, 3) := by decide +kernel
theorem dX0_init_12 : decode cX0_init 12 = .ok (.putfield 12, 3) := by decide +kernel
theorem dX0_init_15 : decode cX0_init 15 = .ok (.aload_n 0, 1) := by decide +kernel
theorem dX0_init_16 : decode cX0_init 16 = .ok (.new 18, 3) := by decide +kernel
theorem dX0_init_19 : decode cX0_init 19 = .ok (.dup, 1) := by decide +kernel
theorem dX0_init_20 : decode cX0_init 20 = .ok (.invokespecial 20, 3) := by decide +kernel
theorem dX0_init_23 : decode cX0_init 23 = .ok (.putfield 21, 3) := by decide +kernel
theorem dX0_init_26 : decode cX0_init 26 = .ok (.aload_n 0, 1) := by decide +kernel
theorem dX0_init_27 : decode cX0_init 27 = .ok (.bipush 24, 2) := by decide +kernel
theorem dX0_init_29 : decode cX0_init 29 = .ok (.newarray .int, 2) := by decide +kernel
theorem dX0_init_31 : decode cX0_init 31 = .ok (.putfield 25, 3) := by decide +kernel
theorem dX0_init_34 : decode cX0_init 34 = .ok (.aload_n 0, 1) := by decide +kernel
theorem dX0_init_35 : decode cX0_init 35 = .ok (.bipush 7, 2) := by decide +kernel
theorem dX0_init_37 : decode cX0_init 37 = .ok (.newarray .int, 2) := by decide +kernel
theorem dX0_init_39 : decode cX0_init 39 = .ok (.putfield 29, 3) := by decide +kernel
theorem dX0_init_42 : decode cX0_init 42 = .ok (.aload_n 0, 1) := by decide +kernel
theorem dX0_init_43 : decode cX0_init 43 = .ok (.iconst 4, 1) := by decide +kernel
theorem dX0_init_44 : decode cX0_init 44 = .ok (.newarray .int, 2) := by decide +kernel
theorem dX0_init_46 : decode cX0_init 46 = .ok (.putfield 32, 3) := by decide +kernel
theorem dX0_init_49 : decode cX0_init 49 = .ok (.aload_n 0, 1) := by decide +kernel
theorem dX0_init_50 : decode cX0_init 50 = .ok (.iconst 4, 1) := by decide +kernel
theorem dX0_init_51 : decode cX0_init 51 = .ok (.newarray .boolean, 2) := by decide +kernel
theorem dX0_init_53 : decode cX0_init 53 = .ok (.putfield 35, 3) := by decide +kernel
theorem dX0_init_56 : decode cX0_init 56 = .ok (.aload_n 0, 1) := by decide +kernel
theorem dX0_init_57 : decode cX0_init 57 = .ok (.bipush 38, 2) := by decide +kernel
theorem dX0_init_59 : decode cX0_init 59 = .ok (.newarray .long, 2) := by decide +kernel
theorem dX0_init_61 : decode cX0_init 61 = .ok (.putfield 39, 3) := by decide +kernel
theorem dX0_init_64 : decode cX0_init 64 = .ok (.return_, 1) := by decide +kernel
theorem dX0_callUp_0 : decode cX0_callUp 0 = .ok (.aload_n 0, 1) := by decide +kernel
theorem dX0_callUp_1 : decode cX0_callUp 1 = .ok (.aload_n 0, 1) := by decide +kernel
theorem dX0_callUp_2 : decode cX0_callUp 2 = .ok (.getfield 21, 3) := by decide +kernel
theorem dX0_callUp_5 : decode cX0_callUp 5 = .ok (.getfield 43, 3) := by decide +kernel
theorem dX0_callUp_8 : decode cX0_callUp 8 = .ok (.iconst 4, 1) := by decide +kernel
theorem dX0_callUp_9 : decode cX0_callUp 9 = .ok (.invokestatic 47, 3) := by decide +kernel
theorem dX0_callUp_12 : decode cX0_callUp 12 = .ok (.putfield 53, 3) := by decide +kernel
theorem dX0_callUp_15 : decode cX0_callUp 15 = .ok (.iconst 0, 1) := by decide +kernel
theorem dX0_callUp_16 : decode cX0_callUp 16 = .ok (.istore_n 2, 1) := by decide +kernel
theorem dX0_callUp_17 : decode cX0_callUp 17 = .ok (.iload_n 2, 1) := by decide +kernel
theorem dX0_callUp_18 : decode cX0_callUp 18 = .ok (.aload_n 0, 1) := by decide +kernel
theorem dX0_callUp_19 : decode cX0_callUp 19 = .ok (.getfield 53, 3) := by decide +kernel
theorem dX0_callUp_22 : decode cX0_callUp 22 = .ok (.if_icmp .ge 60, 3) := by decide +kernel
theorem dX0_callUp_25 : decode cX0_callUp 25 = .ok (.iload_n 1, 1) := by decide +kernel
theorem dX0_callUp_26 : decode cX0_callUp 26 = .ok (.ifCond .eq 7, 3) := by decide +kernel
theorem dX0_callUp_29 : decode cX0_callUp 29 = .ok (.iconst 0, 1) := by decide +kernel
theorem dX0_callUp_30 : decode cX0_callUp 30 = .ok (.goto 11, 3) := by decide +kernel
theorem dX0_callUp_33 : decode cX0_callUp 33 = .ok (.aload_n 0, 1) := by decide +kernel
theorem dX0_callUp_34 : decode cX0_callUp 34 = .ok (.getfield 21, 3) := by decide +kernel
theorem dX0_callUp_37 : decode cX0_callUp 37 = .ok (.iload_n 2, 1) := by decide +kernel
theorem dX0_callUp_38 : decode cX0_callUp 38 = .ok (.invokevirtual 56, 3) := by decide +kernel
theorem dX0_callUp_41 : decode cX0_callUp 41 = .ok (.istore_n 3, 1) := by decide +kernel
theorem dX0_callUp_42 : decode cX0_callUp 42 = .ok (.aload_n 0, 1) := by decide +kernel
theorem dX0_callUp_43 : decode cX0_callUp 43 = .ok (.getfield 32, 3) := by decide +kernel
theorem dX0_callUp_46 : decode cX0_callUp 46 = .ok (.iload_n 2, 1) := by decide +kernel
theorem dX0_callUp_47 : decode cX0_callUp 47 = .ok (.iload_n 3, 1) := by decide +kernel
theorem dX0_callUp_48 : decode cX0_callUp 48 = .ok (.aload_n 0, 1) := by decide +kernel
theorem dX0_callUp_49 : decode cX0_callUp 49 = .ok (.getfield 21, 3) := by decide +kernel
theorem dX0_callUp_52 : decode cX0_callUp 52 = .ok (.iload_n 2, 1) := by decide +kernel
theorem dX0_callUp_53 : decode cX0_callUp 53 = .ok (.invokevirtual 60, 3) := by decide +kernel
theorem dX0_callUp_56 : decode cX0_callUp 56 = .ok (.invokestatic 63, 3) := by decide +kernel
theorem dX0_callUp_59 : decode cX0_callUp 59 = .ok (.iastore, 1) := by decide +kernel
theorem dX0_callUp_60 : decode cX0_callUp 60 = .ok (.aload_n 0, 1) := by decide +kernel
theorem dX0_callUp_61 : decode cX0_callUp 61 = .ok (.getfield 35, 3) := by decide +kernel
theorem dX0_callUp_64 : decode cX0_callUp 64 = .ok (.iload_n 2, 1) := by decide +kernel
theorem dX0_callUp_65 : decode cX0_callUp 65 = .ok (.iload_n 3, 1) := by decide +kernel
theorem dX0_callUp_66 : decode cX0_callUp 66 = .ok (.iconst 1, 1) := by decide +kernel
theorem dX0_callUp_67 : decode cX0_callUp 67 = .ok (.if_icmp .lt 7, 3) := by decide +kernel
theorem dX0_callUp_70 : decode cX0_callUp 70 = .ok (.iconst 1, 1) := by decide +kernel
theorem dX0_callUp_71 : decode cX0_callUp 71 = .ok (.goto 4, 3) := by decide +kernel
theorem dX0_callUp_74 : decode cX0_callUp 74 = .ok (.iconst 0, 1) := by decide +kernel
theorem dX0_callUp_75 : decode cX0_callUp 75 = .ok (.bastore, 1) := by decide +kernel
theorem dX0_callUp_76 : decode cX0_callUp 76 = .ok (.iinc 2 1, 3) := by decide +kernel
theorem dX0_callUp_79 : decode cX0_callUp 79 = .ok (.goto (-62), 3) := by decide +kernel
theorem dX0_callUp_82 : decode cX0_callUp 82 = .ok (.return_, 1) := by decide +kernel
theorem dX0_stepOf_0 : decode cX0_stepOf 0 = .ok (.iload_n 1, 1) := by decide +kernel
theorem dX0_stepOf_1 : decode cX0_stepOf 1 = .ok (.iconst 4, 1) := by decide +kernel
theorem dX0_stepOf_2 : decode cX0_stepOf 2 = .ok (.imul, 1) := by decide +kernel
theorem dX0_stepOf_3 : decode cX0_stepOf 3 = .ok (.iload_n 2, 1) := by decide +kernel
theorem dX0_stepOf_4 : decode cX0_stepOf 4 = .ok (.iadd, 1) := by decide +kernel
theorem dX0_stepOf_5 : decode cX0_stepOf 5 = .ok (.istore_n 3, 1) := by decide +kernel
theorem dX0_stepOf_6 : decode cX0_stepOf 6 = .ok (.iload_n 3, 1) := by decide +kernel
theorem dX0_stepOf_7 : decode cX0_stepOf 7 = .ok (.ifCond .lt 21, 3) := by decide +kernel
theorem dX0_stepOf_10 : decode cX0_stepOf 10 = .ok (.iload_n 3, 1) := by decide +kernel
theorem dX0_stepOf_11 : decode cX0_stepOf 11 = .ok (.aload_n 0, 1) := by decide +kernel
theorem dX0_stepOf_12 : decode cX0_stepOf 12 = .ok (.getfield 25, 3) := by decide +kernel
theorem dX0_stepOf_15 : decode cX0_stepOf 15 = .ok (.arraylength, 1) := by decide +kernel
theorem dX0_stepOf_16 : decode cX0_stepOf 16 = .ok (.if_icmp .ge 12, 3) := by decide +kernel
theorem dX0_stepOf_19 : decode cX0_stepOf 19 = .ok (.aload_n 0, 1) := by decide +kernel
theorem dX0_stepOf_20 : decode cX0_stepOf 20 = .ok (.getfield 25, 3) := by decide +kernel
theorem dX0_stepOf_23 : decode cX0_stepOf 23 = .ok (.iload_n 3, 1) := by decide +kernel
theorem dX0_stepOf_24 : decode cX0_stepOf 24 = .ok (.iaload, 1) := by decide +kernel
theorem dX0_stepOf_25 : decode cX0_stepOf 25 = .ok (.goto 4, 3) := by decide +kernel
theorem dX0_stepOf_28 : decode cX0_stepOf 28 = .ok (.iconst 0, 1) := by decide +kernel
theorem dX0_stepOf_29 : decode cX0_stepOf 29 = .ok (.ireturn, 1) := by decide +kernel
theorem dX0_step_0 : decode cX0_step 0 = .ok (.iload_n 1, 1) := by decide +kernel
theorem dX0_step_1 : decode cX0_step 1 = .ok (.iconst 4, 1) := by decide +kernel
theorem dX0_step_2 : decode cX0_step 2 = .ok (.imul, 1) := by decide +kernel
theorem dX0_step_3 : decode cX0_step 3 = .ok (.iload_n 2, 1) := by decide +kernel
theorem dX0_step_4 : decode cX0_step 4 = .ok (.iadd, 1) := by decide +kernel
theorem dX0_step_5 : decode cX0_step 5 = .ok (.istore 4, 2) := by decide +kernel
theorem dX0_step_7 : decode cX0_step 7 = .ok (.iload 4, 2) := by decide +kernel
theorem dX0_step_9 : decode cX0_step 9 = .ok (.ifCond .lt 21, 3) := by decide +kernel
theorem dX0_step_12 : decode cX0_step 12 = .ok (.iload 4, 2) := by decide +kernel
theorem dX0_step_14 : decode cX0_step 14 = .ok (.aload_n 0, 1) := by decide +kernel
theorem dX0_step_15 : decode cX0_step 15 = .ok (.getfield 25, 3) := by decide +kernel
theorem dX0_step_18 : decode cX0_step 18 = .ok (.arraylength, 1) := by decide +kernel
theorem dX0_step_19 : decode cX0_step 19 = .ok (.if_icmp .ge 11, 3) := by decide +kernel
theorem dX0_step_22 : decode cX0_step 22 = .ok (.aload_n 0, 1) := by decide +kernel
theorem dX0_step_23 : decode cX0_step 23 = .ok (.getfield 25, 3) := by decide +kernel
theorem dX0_step_26 : decode cX0_step 26 = .ok (.iload 4, 2) := by decide +kernel
theorem dX0_step_28 : decode cX0_step 28 = .ok (.iload_n 3, 1) := by decide +kernel
theorem dX0_step_29 : decode cX0_step 29 = .ok (.iastore, 1) := by decide +kernel
theorem dX0_step_30 : decode cX0_step 30 = .ok (.return_, 1) := by decide +kernel
theorem dX0_learn_0 : decode cX0_learn 0 = .ok (.iconst 0, 1) := by decide +kernel
theorem dX0_learn_1 : decode cX0_learn 1 = .ok (.istore_n 3, 1) := by decide +kernel
theorem dX0_learn_2 : decode cX0_learn 2 = .ok (.iconst 0, 1) := by decide +kernel
theorem dX0_learn_3 : decode cX0_learn 3 = .ok (.istore 4, 2) := by decide +kernel
theorem dX0_learn_5 : decode cX0_learn 5 = .ok (.iload 4, 2) := by decide +kernel
theorem dX0_learn_7 : decode cX0_learn 7 = .ok (.iload_n 2, 1) := by decide +kernel
theorem dX0_learn_8 : decode cX0_learn 8 = .ok (.if_icmp .ge 65, 3) := by decide +kernel
theorem dX0_learn_11 : decode cX0_learn 11 = .ok (.iconst 0, 1) := by decide +kernel
theorem dX0_learn_12 : decode cX0_learn 12 = .ok (.istore 5, 2) := by decide +kernel
theorem dX0_learn_14 : decode cX0_learn 14 = .ok (.iload 5, 2) := by decide +kernel
theorem dX0_learn_16 : decode cX0_learn 16 = .ok (.aload_n 0, 1) := by decide +kernel
theorem dX0_learn_17 : decode cX0_learn 17 = .ok (.getfield 21, 3) := by decide +kernel
theorem dX0_learn_20 : decode cX0_learn 20 = .ok (.getfield 43, 3) := by decide +kernel
theorem dX0_learn_23 : decode cX0_learn 23 = .ok (.if_icmp .ge 44, 3) := by decide +kernel
theorem dX0_learn_26 : decode cX0_learn 26 = .ok (.iload_n 3, 1) := by decide +kernel
theorem dX0_learn_27 : decode cX0_learn 27 = .ok (.aload_n 1, 1) := by decide +kernel
theorem dX0_learn_28 : decode cX0_learn 28 = .ok (.arraylength, 1) := by decide +kernel
theorem dX0_learn_29 : decode cX0_learn 29 = .ok (.if_icmp .ge 16, 3) := by decide +kernel
theorem dX0_learn_32 : decode cX0_learn 32 = .ok (.aload_n 0, 1) := by decide +kernel
theorem dX0_learn_33 : decode cX0_learn 33 = .ok (.getfield 12, 3) := by decide +kernel
theorem dX0_learn_36 : decode cX0_learn 36 = .ok (.aload_n 1, 1) := by decide +kernel
theorem dX0_learn_37 : decode cX0_learn 37 = .ok (.iload_n 3, 1) := by decide +kernel
theorem dX0_learn_38 : decode cX0_learn 38 = .ok (.iaload, 1) := by decide +kernel
theorem dX0_learn_39 : decode cX0_learn 39 = .ok (.invokevirtual 66, 3) := by decide +kernel
theorem dX0_learn_42 : decode cX0_learn 42 = .ok (.ifCond .ne 5, 3) := by decide +kernel
theorem dX0_learn_45 : decode cX0_learn 45 = .ok (.iconst 0, 1) := by decide +kernel
theorem dX0_learn_46 : decode cX0_learn 46 = .ok (.ireturn, 1) := by decide +kernel
theorem dX0_learn_47 : decode cX0_learn 47 = .ok (.aload_n 0, 1) := by decide +kernel
theorem dX0_learn_48 : decode cX0_learn 48 = .ok (.iload 4, 2) := by decide +kernel
theorem dX0_learn_50 : decode cX0_learn 50 = .ok (.iload 5, 2) := by decide +kernel
theorem dX0_learn_52 : decode cX0_learn 52 = .ok (.aload_n 1, 1) := by decide +kernel
theorem dX0_learn_53 : decode cX0_learn 53 = .ok (.iload_n 3, 1) := by decide +kernel
theorem dX0_learn_54 : decode cX0_learn 54 = .ok (.iaload, 1) := by decide +kernel
theorem dX0_learn_55 : decode cX0_learn 55 = .ok (.invokevirtual 70, 3) := by decide +kernel
theorem dX0_learn_58 : decode cX0_learn 58 = .ok (.iinc 3 1, 3) := by decide +kernel
theorem dX0_learn_61 : decode cX0_learn 61 = .ok (.iinc 5 1, 3) := by decide +kernel
theorem dX0_learn_64 : decode cX0_learn 64 = .ok (.goto (-50), 3) := by decide +kernel
theorem dX0_learn_67 : decode cX0_learn 67 = .ok (.iinc 4 1, 3) := by decide +kernel
theorem dX0_learn_70 : decode cX0_learn 70 = .ok (.goto (-65), 3) := by decide +kernel
theorem dX0_learn_73 : decode cX0_learn 73 = .ok (.iconst 1, 1) := by decide +kernel
theorem dX0_learn_74 : decode cX0_learn 74 = .ok (.ireturn, 1) := by decide +kernel
theorem dX0_doorOpened_0 : decode cX0_doorOpened 0 = .ok (.iconst 0, 1) := by decide +kernel
theorem dX0_doorOpened_1 : decode cX0_doorOpened 1 = .ok (.istore_n 2, 1) := by decide +kernel
theorem dX0_doorOpened_2 : decode cX0_doorOpened 2 = .ok (.iload_n 2, 1) := by decide +kernel
theorem dX0_doorOpened_3 : decode cX0_doorOpened 3 = .ok (.aload_n 0, 1) := by decide +kernel
theorem dX0_doorOpened_4 : decode cX0_doorOpened 4 = .ok (.getfield 12, 3) := by decide +kernel
theorem dX0_doorOpened_7 : decode cX0_doorOpened 7 = .ok (.getfield 74, 3) := by decide +kernel
theorem dX0_doorOpened_10 : decode cX0_doorOpened 10 = .ok (.if_icmp .ge 33, 3) := by decide +kernel
theorem dX0_doorOpened_13 : decode cX0_doorOpened 13 = .ok (.aload_n 0, 1) := by decide +kernel
theorem dX0_doorOpened_14 : decode cX0_doorOpened 14 = .ok (.getfield 12, 3) := by decide +kernel
theorem dX0_doorOpened_17 : decode cX0_doorOpened 17 = .ok (.iload_n 2, 1) := by decide +kernel
theorem dX0_doorOpened_18 : decode cX0_doorOpened 18 = .ok (.invokevirtual 77, 3) := by decide +kernel
theorem dX0_doorOpened_21 : decode cX0_doorOpened 21 = .ok (.iload_n 1, 1) := by decide +kernel
theorem dX0_doorOpened_22 : decode cX0_doorOpened 22 = .ok (.if_icmp .ne 15, 3) := by decide +kernel
theorem dX0_doorOpened_25 : decode cX0_doorOpened 25 = .ok (.aload_n 0, 1) := by decide +kernel
theorem dX0_doorOpened_26 : decode cX0_doorOpened 26 = .ok (.iload_n 2, 1) := by decide +kernel
theorem dX0_doorOpened_27 : decode cX0_doorOpened 27 = .ok (.invokevirtual 80, 3) := by decide +kernel
theorem dX0_doorOpened_30 : decode cX0_doorOpened 30 = .ok (.bipush (-9), 2) := by decide +kernel
theorem dX0_doorOpened_32 : decode cX0_doorOpened 32 = .ok (.if_icmp .ne 5, 3) := by decide +kernel
theorem dX0_doorOpened_35 : decode cX0_doorOpened 35 = .ok (.iload_n 2, 1) := by decide +kernel
theorem dX0_doorOpened_36 : decode cX0_doorOpened 36 = .ok (.ireturn, 1) := by decide +kernel
theorem dX0_doorOpened_37 : decode cX0_doorOpened 37 = .ok (.iinc 2 1, 3) := by decide +kernel
theorem dX0_doorOpened_40 : decode cX0_doorOpened 40 = .ok (.goto (-38), 3) := by decide +kernel
theorem dX0_doorOpened_43 : decode cX0_doorOpened 43 = .ok (.bipush (-9), 2) := by decide +kernel
theorem dX0_doorOpened_45 : decode cX0_doorOpened 45 = .ok (.ireturn, 1) := by decide +kernel
theorem dX0_firstWrong_0 : decode cX0_firstWrong 0 = .ok (.iconst 0, 1) := by decide +kernel
theorem dX0_firstWrong_1 : decode cX0_firstWrong 1 = .ok (.istore_n 2, 1) := by decide +kernel
theorem dX0_firstWrong_2 : decode cX0_firstWrong 2 = .ok (.iload_n 2, 1) := by decide +kernel
theorem dX0_firstWrong_3 : decode cX0_firstWrong 3 = .ok (.aload_n 0, 1) := by decide +kernel
theorem dX0_firstWrong_4 : decode cX0_firstWrong 4 = .ok (.getfield 12, 3) := by decide +kernel
theorem dX0_firstWrong_7 : decode cX0_firstWrong 7 = .ok (.iload_n 1, 1) := by decide +kernel
theorem dX0_firstWrong_8 : decode cX0_firstWrong 8 = .ok (.invokevirtual 77, 3) := by decide +kernel
theorem dX0_firstWrong_11 : decode cX0_firstWrong 11 = .ok (.if_icmp .ge 28, 3) := by decide +kernel
theorem dX0_firstWrong_14 : decode cX0_firstWrong 14 = .ok (.aload_n 0, 1) := by decide +kernel
theorem dX0_firstWrong_15 : decode cX0_firstWrong 15 = .ok (.iload_n 2, 1) := by decide +kernel
theorem dX0_firstWrong_16 : decode cX0_firstWrong 16 = .ok (.invokevirtual 83, 3) := by decide +kernel
theorem dX0_firstWrong_19 : decode cX0_firstWrong 19 = .ok (.aload_n 0, 1) := by decide +kernel
theorem dX0_firstWrong_20 : decode cX0_firstWrong 20 = .ok (.getfield 12, 3) := by decide +kernel
theorem dX0_firstWrong_23 : decode cX0_firstWrong 23 = .ok (.iload_n 1, 1) := by decide +kernel
theorem dX0_firstWrong_24 : decode cX0_firstWrong 24 = .ok (.iload_n 2, 1) := by decide +kernel
theorem dX0_firstWrong_25 : decode cX0_firstWrong 25 = .ok (.invokevirtual 86, 3) := by decide +kernel
theorem dX0_firstWrong_28 : decode cX0_firstWrong 28 = .ok (.if_icmp .eq 5, 3) := by decide +kernel
theorem dX0_firstWrong_31 : decode cX0_firstWrong 31 = .ok (.iload_n 2, 1) := by decide +kernel
theorem dX0_firstWrong_32 : decode cX0_firstWrong 32 = .ok (.ireturn, 1) := by decide +kernel
theorem dX0_firstWrong_33 : decode cX0_firstWrong 33 = .ok (.iinc 2 1, 3) := by decide +kernel
theorem dX0_firstWrong_36 : decode cX0_firstWrong 36 = .ok (.goto (-34), 3) := by decide +kernel
theorem dX0_firstWrong_39 : decode cX0_firstWrong 39 = .ok (.bipush (-9), 2) := by decide +kernel
theorem dX0_firstWrong_41 : decode cX0_firstWrong 41 = .ok (.ireturn, 1) := by decide +kernel
theorem dX0_feltIn_0 : decode cX0_feltIn 0 = .ok (.aload_n 0, 1) := by decide +kernel
theorem dX0_feltIn_1 : decode cX0_feltIn 1 = .ok (.iconst 0, 1) := by decide +kernel
theorem dX0_feltIn_2 : decode cX0_feltIn 2 = .ok (.invokevirtual 89, 3) := by decide +kernel
theorem dX0_feltIn_5 : decode cX0_feltIn 5 = .ok (.aload_n 0, 1) := by decide +kernel
theorem dX0_feltIn_6 : decode cX0_feltIn 6 = .ok (.iload_n 1, 1) := by decide +kernel
theorem dX0_feltIn_7 : decode cX0_feltIn 7 = .ok (.aload_n 0, 1) := by decide +kernel
theorem dX0_feltIn_8 : decode cX0_feltIn 8 = .ok (.getfield 53, 3) := by decide +kernel
theorem dX0_feltIn_11 : decode cX0_feltIn 11 = .ok (.invokevirtual 93, 3) := by decide +kernel
theorem dX0_feltIn_14 : decode cX0_feltIn 14 = .ok (.iconst 0, 1) := by decide +kernel
theorem dX0_feltIn_15 : decode cX0_feltIn 15 = .ok (.istore_n 2, 1) := by decide +kernel
theorem dX0_feltIn_16 : decode cX0_feltIn 16 = .ok (.iconst 0, 1) := by decide +kernel
theorem dX0_feltIn_17 : decode cX0_feltIn 17 = .ok (.istore_n 3, 1) := by decide +kernel
theorem dX0_feltIn_18 : decode cX0_feltIn 18 = .ok (.iload_n 3, 1) := by decide +kernel
theorem dX0_feltIn_19 : decode cX0_feltIn 19 = .ok (.aload_n 0, 1) := by decide +kernel
theorem dX0_feltIn_20 : decode cX0_feltIn 20 = .ok (.getfield 12, 3) := by decide +kernel
theorem dX0_feltIn_23 : decode cX0_feltIn 23 = .ok (.getfield 97, 3) := by decide +kernel
theorem dX0_feltIn_26 : decode cX0_feltIn 26 = .ok (.if_icmp .ge 23, 3) := by decide +kernel
theorem dX0_feltIn_29 : decode cX0_feltIn 29 = .ok (.aload_n 0, 1) := by decide +kernel
theorem dX0_feltIn_30 : decode cX0_feltIn 30 = .ok (.iload_n 3, 1) := by decide +kernel
theorem dX0_feltIn_31 : decode cX0_feltIn 31 = .ok (.invokevirtual 100, 3) := by decide +kernel
theorem dX0_feltIn_34 : decode cX0_feltIn 34 = .ok (.ifCond .gt 9, 3) := by decide +kernel
theorem dX0_feltIn_37 : decode cX0_feltIn 37 = .ok (.iload_n 2, 1) := by decide +kernel
theorem dX0_feltIn_38 : decode cX0_feltIn 38 = .ok (.iconst 1, 1) := by decide +kernel
theorem dX0_feltIn_39 : decode cX0_feltIn 39 = .ok (.iload_n 3, 1) := by decide +kernel
theorem dX0_feltIn_40 : decode cX0_feltIn 40 = .ok (.ishl, 1) := by decide +kernel
theorem dX0_feltIn_41 : decode cX0_feltIn 41 = .ok (.ior, 1) := by decide +kernel
theorem dX0_feltIn_42 : decode cX0_feltIn 42 = .ok (.istore_n 2, 1) := by decide +kernel
theorem dX0_feltIn_43 : decode cX0_feltIn 43 = .ok (.iinc 3 1, 3) := by decide +kernel
theorem dX0_feltIn_46 : decode cX0_feltIn 46 = .ok (.goto (-28), 3) := by decide +kernel
theorem dX0_feltIn_49 : decode cX0_feltIn 49 = .ok (.iload_n 2, 1) := by decide +kernel
theorem dX0_feltIn_50 : decode cX0_feltIn 50 = .ok (.ireturn, 1) := by decide +kernel
theorem dX0_missingOn_0 : decode cX0_missingOn 0 = .ok (.aload_n 0, 1) := by decide +kernel
theorem dX0_missingOn_1 : decode cX0_missingOn 1 = .ok (.getfield 12, 3) := by decide +kernel
theorem dX0_missingOn_4 : decode cX0_missingOn 4 = .ok (.iload_n 1, 1) := by decide +kernel
theorem dX0_missingOn_5 : decode cX0_missingOn 5 = .ok (.invokevirtual 66, 3) := by decide +kernel
theorem dX0_missingOn_8 : decode cX0_missingOn 8 = .ok (.ifCond .eq 22, 3) := by decide +kernel
theorem dX0_missingOn_11 : decode cX0_missingOn 11 = .ok (.aload_n 0, 1) := by decide +kernel
theorem dX0_missingOn_12 : decode cX0_missingOn 12 = .ok (.getfield 12, 3) := by decide +kernel
theorem dX0_missingOn_15 : decode cX0_missingOn 15 = .ok (.getfield 103, 3) := by decide +kernel
theorem dX0_missingOn_18 : decode cX0_missingOn 18 = .ok (.iload_n 1, 1) := by decide +kernel
theorem dX0_missingOn_19 : decode cX0_missingOn 19 = .ok (.iaload, 1) := by decide +kernel
theorem dX0_missingOn_20 : decode cX0_missingOn 20 = .ok (.aload_n 0, 1) := by decide +kernel
theorem dX0_missingOn_21 : decode cX0_missingOn 21 = .ok (.getfield 29, 3) := by decide +kernel
theorem dX0_missingOn_24 : decode cX0_missingOn 24 = .ok (.iload_n 1, 1) := by decide +kernel
theorem dX0_missingOn_25 : decode cX0_missingOn 25 = .ok (.iaload, 1) := by decide +kernel
theorem dX0_missingOn_26 : decode cX0_missingOn 26 = .ok (.isub, 1) := by decide +kernel
theorem dX0_missingOn_27 : decode cX0_missingOn 27 = .ok (.goto 4, 3) := by decide +kernel
theorem dX0_missingOn_30 : decode cX0_missingOn 30 = .ok (.iconst 0, 1) := by decide +kernel
theorem dX0_missingOn_31 : decode cX0_missingOn 31 = .ok (.ireturn, 1) := by decide +kernel
theorem dX0_load_0 : decode cX0_load 0 = .ok (.aload_n 0, 1) := by decide +kernel
theorem dX0_load_1 : decode cX0_load 1 = .ok (.getfield 29, 3) := by decide +kernel
theorem dX0_load_4 : decode cX0_load 4 = .ok (.iconst 0, 1) := by decide +kernel
theorem dX0_load_5 : decode cX0_load 5 = .ok (.invokestatic 106, 3) := by decide +kernel
theorem dX0_load_8 : decode cX0_load 8 = .ok (.iconst 0, 1) := by decide +kernel
theorem dX0_load_9 : decode cX0_load 9 = .ok (.istore_n 3, 1) := by decide +kernel
theorem dX0_load_10 : decode cX0_load 10 = .ok (.iload_n 3, 1) := by decide +kernel
theorem dX0_load_11 : decode cX0_load 11 = .ok (.aload_n 0, 1) := by decide +kernel
theorem dX0_load_12 : decode cX0_load 12 = .ok (.getfield 53, 3) := by decide +kernel
theorem dX0_load_15 : decode cX0_load 15 = .ok (.if_icmp .ge 73, 3) := by decide +kernel
theorem dX0_load_18 : decode cX0_load 18 = .ok (.aload_n 0, 1) := by decide +kernel
theorem dX0_load_19 : decode cX0_load 19 = .ok (.iload_n 1, 1) := by decide +kernel
theorem dX0_load_20 : decode cX0_load 20 = .ok (.iload_n 3, 1) := by decide +kernel
theorem dX0_load_21 : decode cX0_load 21 = .ok (.invokevirtual 112, 3) := by decide +kernel
theorem dX0_load_24 : decode cX0_load 24 = .ok (.istore 4, 2) := by decide +kernel
theorem dX0_load_26 : decode cX0_load 26 = .ok (.aload_n 0, 1) := by decide +kernel
theorem dX0_load_27 : decode cX0_load 27 = .ok (.iload 4, 2) := by decide +kernel
theorem dX0_load_29 : decode cX0_load 29 = .ok (.ifCond .eq 9, 3) := by decide +kernel
theorem dX0_load_32 : decode cX0_load 32 = .ok (.iload_n 1, 1) := by decide +kernel
theorem dX0_load_33 : decode cX0_load 33 = .ok (.iconst 1, 1) := by decide +kernel
theorem dX0_load_34 : decode cX0_load 34 = .ok (.isub, 1) := by decide +kernel
theorem dX0_load_35 : decode cX0_load 35 = .ok (.goto 4, 3) := by decide +kernel
theorem dX0_load_38 : decode cX0_load 38 = .ok (.iload_n 1, 1) := by decide +kernel
theorem dX0_load_39 : decode cX0_load 39 = .ok (.iload_n 3, 1) := by decide +kernel
theorem dX0_load_40 : decode cX0_load 40 = .ok (.invokevirtual 116, 3) := by decide +kernel
theorem dX0_load_43 : decode cX0_load 43 = .ok (.istore 5, 2) := by decide +kernel
theorem dX0_load_45 : decode cX0_load 45 = .ok (.iload 4, 2) := by decide +kernel
theorem dX0_load_47 : decode cX0_load 47 = .ok (.ifCond .ne 8, 3) := by decide +kernel
theorem dX0_load_50 : decode cX0_load 50 = .ok (.iload_n 3, 1) := by decide +kernel
theorem dX0_load_51 : decode cX0_load 51 = .ok (.iload_n 2, 1) := by decide +kernel
theorem dX0_load_52 : decode cX0_load 52 = .ok (.if_icmp .ge 30, 3) := by decide +kernel
theorem dX0_load_55 : decode cX0_load 55 = .ok (.aload_n 0, 1) := by decide +kernel
theorem dX0_load_56 : decode cX0_load 56 = .ok (.getfield 12, 3) := by decide +kernel
theorem dX0_load_59 : decode cX0_load 59 = .ok (.iload 5, 2) := by decide +kernel
theorem dX0_load_61 : decode cX0_load 61 = .ok (.invokevirtual 66, 3) := by decide +kernel
theorem dX0_load_64 : decode cX0_load 64 = .ok (.ifCond .eq 18, 3) := by decide +kernel
theorem dX0_load_67 : decode cX0_load 67 = .ok (.aload_n 0, 1) := by decide +kernel
theorem dX0_load_68 : decode cX0_load 68 = .ok (.getfield 29, 3) := by decide +kernel
theorem dX0_load_71 : decode cX0_load 71 = .ok (.iload 5, 2) := by decide +kernel
theorem dX0_load_73 : decode cX0_load 73 = .ok (.dup2, 1) := by decide +kernel
theorem dX0_load_74 : decode cX0_load 74 = .ok (.iaload, 1) := by decide +kernel
theorem dX0_load_75 : decode cX0_load 75 = .ok (.aload_n 0, 1) := by decide +kernel
theorem dX0_load_76 : decode cX0_load 76 = .ok (.iload_n 3, 1) := by decide +kernel
theorem dX0_load_77 : decode cX0_load 77 = .ok (.invokevirtual 119, 3) := by decide +kernel
theorem dX0_load_80 : decode cX0_load 80 = .ok (.iadd, 1) := by decide +kernel
theorem dX0_load_81 : decode cX0_load 81 = .ok (.iastore, 1) := by decide +kernel
theorem dX0_load_82 : decode cX0_load 82 = .ok (.iinc 3 1, 3) := by decide +kernel
theorem dX0_load_85 : decode cX0_load 85 = .ok (.goto (-75), 3) := by decide +kernel
theorem dX0_load_88 : decode cX0_load 88 = .ok (.return_, 1) := by decide +kernel
theorem dX0_isBound_0 : decode cX0_isBound 0 = .ok (.iload_n 1, 1) := by decide +kernel
theorem dX0_isBound_1 : decode cX0_isBound 1 = .ok (.iconst 2, 1) := by decide +kernel
theorem dX0_isBound_2 : decode cX0_isBound 2 = .ok (.irem, 1) := by decide +kernel
theorem dX0_isBound_3 : decode cX0_isBound 3 = .ok (.iconst 1, 1) := by decide +kernel
theorem dX0_isBound_4 : decode cX0_isBound 4 = .ok (.if_icmp .ne 33, 3) := by decide +kernel
theorem dX0_isBound_7 : decode cX0_isBound 7 = .ok (.iload_n 2, 1) := by decide +kernel
theorem dX0_isBound_8 : decode cX0_isBound 8 = .ok (.ifCond .lt 29, 3) := by decide +kernel
theorem dX0_isBound_11 : decode cX0_isBound 11 = .ok (.iload_n 2, 1) := by decide +kernel
theorem dX0_isBound_12 : decode cX0_isBound 12 = .ok (.aload_n 0, 1) := by decide +kernel
theorem dX0_isBound_13 : decode cX0_isBound 13 = .ok (.getfield 53, 3) := by decide +kernel
theorem dX0_isBound_16 : decode cX0_isBound 16 = .ok (.if_icmp .ge 21, 3) := by decide +kernel
theorem dX0_isBound_19 : decode cX0_isBound 19 = .ok (.iload_n 2, 1) := by decide +kernel
theorem dX0_isBound_20 : decode cX0_isBound 20 = .ok (.iconst 4, 1) := by decide +kernel
theorem dX0_isBound_21 : decode cX0_isBound 21 = .ok (.if_icmp .ge 16, 3) := by decide +kernel
theorem dX0_isBound_24 : decode cX0_isBound 24 = .ok (.aload_n 0, 1) := by decide +kernel
theorem dX0_isBound_25 : decode cX0_isBound 25 = .ok (.getfield 35, 3) := by decide +kernel
theorem dX0_isBound_28 : decode cX0_isBound 28 = .ok (.iload_n 2, 1) := by decide +kernel
theorem dX0_isBound_29 : decode cX0_isBound 29 = .ok (.baload, 1) := by decide +kernel
theorem dX0_isBound_30 : decode cX0_isBound 30 = .ok (.ifCond .eq 7, 3) := by decide +kernel
theorem dX0_isBound_33 : decode cX0_isBound 33 = .ok (.iconst 1, 1) := by decide +kernel
theorem dX0_isBound_34 : decode cX0_isBound 34 = .ok (.goto 4, 3) := by decide +kernel
theorem dX0_isBound_37 : decode cX0_isBound 37 = .ok (.iconst 0, 1) := by decide +kernel
theorem dX0_isBound_38 : decode cX0_isBound 38 = .ok (.ireturn, 1) := by decide +kernel
theorem dX0_pullOf_0 : decode cX0_pullOf 0 = .ok (.iload_n 1, 1) := by decide +kernel
theorem dX0_pullOf_1 : decode cX0_pullOf 1 = .ok (.ifCond .lt 25, 3) := by decide +kernel
theorem dX0_pullOf_4 : decode cX0_pullOf 4 = .ok (.iload_n 1, 1) := by decide +kernel
theorem dX0_pullOf_5 : decode cX0_pullOf 5 = .ok (.aload_n 0, 1) := by decide +kernel
theorem dX0_pullOf_6 : decode cX0_pullOf 6 = .ok (.getfield 53, 3) := by decide +kernel
theorem dX0_pullOf_9 : decode cX0_pullOf 9 = .ok (.if_icmp .ge 17, 3) := by decide +kernel
theorem dX0_pullOf_12 : decode cX0_pullOf 12 = .ok (.iload_n 1, 1) := by decide +kernel
theorem dX0_pullOf_13 : decode cX0_pullOf 13 = .ok (.iconst 4, 1) := by decide +kernel
theorem dX0_pullOf_14 : decode cX0_pullOf 14 = .ok (.if_icmp .ge 12, 3) := by decide +kernel
theorem dX0_pullOf_17 : decode cX0_pullOf 17 = .ok (.aload_n 0, 1) := by decide +kernel
theorem dX0_pullOf_18 : decode cX0_pullOf 18 = .ok (.getfield 32, 3) := by decide +kernel
theorem dX0_pullOf_21 : decode cX0_pullOf 21 = .ok (.iload_n 1, 1) := by decide +kernel
theorem dX0_pullOf_22 : decode cX0_pullOf 22 = .ok (.iaload, 1) := by decide +kernel
theorem dX0_pullOf_23 : decode cX0_pullOf 23 = .ok (.goto 4, 3) := by decide +kernel
theorem dX0_pullOf_26 : decode cX0_pullOf 26 = .ok (.iconst 0, 1) := by decide +kernel
theorem dX0_pullOf_27 : decode cX0_pullOf 27 = .ok (.ireturn, 1) := by decide +kernel
theorem dX0_findPlan_0 : decode cX0_findPlan 0 = .ok (.aload_n 0, 1) := by decide +kernel
theorem dX0_findPlan_1 : decode cX0_findPlan 1 = .ok (.iload_n 2, 1) := by decide +kernel
theorem dX0_findPlan_2 : decode cX0_findPlan 2 = .ok (.invokevirtual 89, 3) := by decide +kernel
theorem dX0_findPlan_5 : decode cX0_findPlan 5 = .ok (.iconst 0, 1) := by decide +kernel
theorem dX0_findPlan_6 : decode cX0_findPlan 6 = .ok (.istore_n 3, 1) := by decide +kernel
theorem dX0_findPlan_7 : decode cX0_findPlan 7 = .ok (.iload_n 3, 1) := by decide +kernel
theorem dX0_findPlan_8 : decode cX0_findPlan 8 = .ok (.aload_n 0, 1) := by decide +kernel
theorem dX0_findPlan_9 : decode cX0_findPlan 9 = .ok (.getfield 12, 3) := by decide +kernel
theorem dX0_findPlan_12 : decode cX0_findPlan 12 = .ok (.iload_n 1, 1) := by decide +kernel
theorem dX0_findPlan_13 : decode cX0_findPlan 13 = .ok (.invokevirtual 77, 3) := by decide +kernel
theorem dX0_findPlan_16 : decode cX0_findPlan 16 = .ok (.if_icmp .ge 29, 3) := by decide +kernel
theorem dX0_findPlan_19 : decode cX0_findPlan 19 = .ok (.aload_n 0, 1) := by decide +kernel
theorem dX0_findPlan_20 : decode cX0_findPlan 20 = .ok (.getfield 39, 3) := by decide +kernel
theorem dX0_findPlan_23 : decode cX0_findPlan 23 = .ok (.lconst 0, 1) := by decide +kernel
theorem dX0_findPlan_24 : decode cX0_findPlan 24 = .ok (.invokestatic 122, 3) := by decide +kernel
theorem dX0_findPlan_27 : decode cX0_findPlan 27 = .ok (.aload_n 0, 1) := by decide +kernel
theorem dX0_findPlan_28 : decode cX0_findPlan 28 = .ok (.iload_n 1, 1) := by decide +kernel
theorem dX0_findPlan_29 : decode cX0_findPlan 29 = .ok (.iload_n 3, 1) := by decide +kernel
theorem dX0_findPlan_30 : decode cX0_findPlan 30 = .ok (.iconst 0, 1) := by decide +kernel
theorem dX0_findPlan_31 : decode cX0_findPlan 31 = .ok (.invokevirtual 125, 3) := by decide +kernel
theorem dX0_findPlan_34 : decode cX0_findPlan 34 = .ok (.ifCond .ne 5, 3) := by decide +kernel
theorem dX0_findPlan_37 : decode cX0_findPlan 37 = .ok (.iconst 0, 1) := by decide +kernel
theorem dX0_findPlan_38 : decode cX0_findPlan 38 = .ok (.ireturn, 1) := by decide +kernel
theorem dX0_findPlan_39 : decode cX0_findPlan 39 = .ok (.iinc 3 2, 3) := by decide +kernel
theorem dX0_findPlan_42 : decode cX0_findPlan 42 = .ok (.goto (-35), 3) := by decide +kernel
theorem dX0_findPlan_45 : decode cX0_findPlan 45 = .ok (.iconst 1, 1) := by decide +kernel
theorem dX0_findPlan_46 : decode cX0_findPlan 46 = .ok (.ireturn, 1) := by decide +kernel
theorem dX0_place_0 : decode cX0_place 0 = .ok (.aload_n 0, 1) := by decide +kernel
theorem dX0_place_1 : decode cX0_place 1 = .ok (.aload_n 0, 1) := by decide +kernel
theorem dX0_place_2 : decode cX0_place 2 = .ok (.getfield 12, 3) := by decide +kernel
theorem dX0_place_5 : decode cX0_place 5 = .ok (.iload_n 1, 1) := by decide +kernel
theorem dX0_place_6 : decode cX0_place 6 = .ok (.iload_n 2, 1) := by decide +kernel
theorem dX0_place_7 : decode cX0_place 7 = .ok (.invokevirtual 86, 3) := by decide +kernel
theorem dX0_place_10 : decode cX0_place 10 = .ok (.iload_n 2, 1) := by decide +kernel
theorem dX0_place_11 : decode cX0_place 11 = .ok (.iload_n 3, 1) := by decide +kernel
theorem dX0_place_12 : decode cX0_place 12 = .ok (.invokevirtual 129, 3) := by decide +kernel
theorem dX0_place_15 : decode cX0_place 15 = .ok (.ifCond .ne 5, 3) := by decide +kernel
theorem dX0_place_18 : decode cX0_place 18 = .ok (.iconst 0, 1) := by decide +kernel
theorem dX0_place_19 : decode cX0_place 19 = .ok (.ireturn, 1) := by decide +kernel
theorem dX0_place_20 : decode cX0_place 20 = .ok (.iload_n 3, 1) := by decide +kernel
theorem dX0_place_21 : decode cX0_place 21 = .ok (.aload_n 0, 1) := by decide +kernel
theorem dX0_place_22 : decode cX0_place 22 = .ok (.getfield 53, 3) := by decide +kernel
theorem dX0_place_25 : decode cX0_place 25 = .ok (.if_icmp .lt 41, 3) := by decide +kernel
theorem dX0_place_28 : decode cX0_place 28 = .ok (.iload_n 2, 1) := by decide +kernel
theorem dX0_place_29 : decode cX0_place 29 = .ok (.iconst 2, 1) := by decide +kernel
theorem dX0_place_30 : decode cX0_place 30 = .ok (.irem, 1) := by decide +kernel
theorem dX0_place_31 : decode cX0_place 31 = .ok (.iconst 1, 1) := by decide +kernel
theorem dX0_place_32 : decode cX0_place 32 = .ok (.if_icmp .eq 28, 3) := by decide +kernel
theorem dX0_place_35 : decode cX0_place 35 = .ok (.aload_n 0, 1) := by decide +kernel
theorem dX0_place_36 : decode cX0_place 36 = .ok (.getfield 12, 3) := by decide +kernel
theorem dX0_place_39 : decode cX0_place 39 = .ok (.iload_n 1, 1) := by decide +kernel
theorem dX0_place_40 : decode cX0_place 40 = .ok (.iload_n 2, 1) := by decide +kernel
theorem dX0_place_41 : decode cX0_place 41 = .ok (.iconst 1, 1) := by decide +kernel
theorem dX0_place_42 : decode cX0_place 42 = .ok (.iadd, 1) := by decide +kernel
theorem dX0_place_43 : decode cX0_place 43 = .ok (.invokevirtual 132, 3) := by decide +kernel
theorem dX0_place_46 : decode cX0_place 46 = .ok (.ifCond .eq 14, 3) := by decide +kernel
theorem dX0_place_49 : decode cX0_place 49 = .ok (.aload_n 0, 1) := by decide +kernel
theorem dX0_place_50 : decode cX0_place 50 = .ok (.iload_n 1, 1) := by decide +kernel
theorem dX0_place_51 : decode cX0_place 51 = .ok (.iload_n 2, 1) := by decide +kernel
theorem dX0_place_52 : decode cX0_place 52 = .ok (.iconst 1, 1) := by decide +kernel
theorem dX0_place_53 : decode cX0_place 53 = .ok (.iadd, 1) := by decide +kernel
theorem dX0_place_54 : decode cX0_place 54 = .ok (.invokevirtual 135, 3) := by decide +kernel
theorem dX0_place_57 : decode cX0_place 57 = .ok (.ifCond .eq 7, 3) := by decide +kernel
theorem dX0_place_60 : decode cX0_place 60 = .ok (.iconst 1, 1) := by decide +kernel
theorem dX0_place_61 : decode cX0_place 61 = .ok (.goto 4, 3) := by decide +kernel
theorem dX0_place_64 : decode cX0_place 64 = .ok (.iconst 0, 1) := by decide +kernel
theorem dX0_place_65 : decode cX0_place 65 = .ok (.ireturn, 1) := by decide +kernel
theorem dX0_place_66 : decode cX0_place 66 = .ok (.aload_n 0, 1) := by decide +kernel
theorem dX0_place_67 : decode cX0_place 67 = .ok (.iload_n 2, 1) := by decide +kernel
theorem dX0_place_68 : decode cX0_place 68 = .ok (.iload_n 3, 1) := by decide +kernel
theorem dX0_place_69 : decode cX0_place 69 = .ok (.invokevirtual 112, 3) := by decide +kernel
theorem dX0_place_72 : decode cX0_place 72 = .ok (.ifCond .eq 20, 3) := by decide +kernel
theorem dX0_place_75 : decode cX0_place 75 = .ok (.aload_n 0, 1) := by decide +kernel
theorem dX0_place_76 : decode cX0_place 76 = .ok (.iload_n 2, 1) := by decide +kernel
theorem dX0_place_77 : decode cX0_place 77 = .ok (.iload_n 3, 1) := by decide +kernel
theorem dX0_place_78 : decode cX0_place 78 = .ok (.iconst 0, 1) := by decide +kernel
theorem dX0_place_79 : decode cX0_place 79 = .ok (.invokevirtual 70, 3) := by decide +kernel
theorem dX0_place_82 : decode cX0_place 82 = .ok (.aload_n 0, 1) := by decide +kernel
theorem dX0_place_83 : decode cX0_place 83 = .ok (.iload_n 1, 1) := by decide +kernel
theorem dX0_place_84 : decode cX0_place 84 = .ok (.iload_n 2, 1) := by decide +kernel
theorem dX0_place_85 : decode cX0_place 85 = .ok (.iload_n 3, 1) := by decide +kernel
theorem dX0_place_86 : decode cX0_place 86 = .ok (.iconst 1, 1) := by decide +kernel
theorem dX0_place_87 : decode cX0_place 87 = .ok (.iadd, 1) := by decide +kernel
theorem dX0_place_88 : decode cX0_place 88 = .ok (.invokevirtual 125, 3) := by decide +kernel
theorem dX0_place_91 : decode cX0_place 91 = .ok (.ireturn, 1) := by decide +kernel
theorem dX0_place_92 : decode cX0_place 92 = .ok (.iconst 0, 1) := by decide +kernel
theorem dX0_place_93 : decode cX0_place 93 = .ok (.istore 4, 2) := by decide +kernel
theorem dX0_place_95 : decode cX0_place 95 = .ok (.iload 4, 2) := by decide +kernel
theorem dX0_place_97 : decode cX0_place 97 = .ok (.aload_n 0, 1) := by decide +kernel
theorem dX0_place_98 : decode cX0_place 98 = .ok (.getfield 12, 3) := by decide +kernel
theorem dX0_place_101 : decode cX0_place 101 = .ok (.getfield 97, 3) := by decide +kernel
theorem dX0_place_104 : decode cX0_place 104 = .ok (.if_icmp .ge 31, 3) := by decide +kernel
theorem dX0_place_107 : decode cX0_place 107 = .ok (.aload_n 0, 1) := by decide +kernel
theorem dX0_place_108 : decode cX0_place 108 = .ok (.iload_n 2, 1) := by decide +kernel
theorem dX0_place_109 : decode cX0_place 109 = .ok (.iload_n 3, 1) := by decide +kernel
theorem dX0_place_110 : decode cX0_place 110 = .ok (.iload 4, 2) := by decide +kernel
theorem dX0_place_112 : decode cX0_place 112 = .ok (.invokevirtual 70, 3) := by decide +kernel
theorem dX0_place_115 : decode cX0_place 115 = .ok (.aload_n 0, 1) := by decide +kernel
theorem dX0_place_116 : decode cX0_place 116 = .ok (.iload_n 1, 1) := by decide +kernel
theorem dX0_place_117 : decode cX0_place 117 = .ok (.iload_n 2, 1) := by decide +kernel
theorem dX0_place_118 : decode cX0_place 118 = .ok (.iload_n 3, 1) := by decide +kernel
theorem dX0_place_119 : decode cX0_place 119 = .ok (.iconst 1, 1) := by decide +kernel
theorem dX0_place_120 : decode cX0_place 120 = .ok (.iadd, 1) := by decide +kernel
theorem dX0_place_121 : decode cX0_place 121 = .ok (.invokevirtual 125, 3) := by decide +kernel
theorem dX0_place_124 : decode cX0_place 124 = .ok (.ifCond .eq 5, 3) := by decide +kernel
theorem dX0_place_127 : decode cX0_place 127 = .ok (.iconst 1, 1) := by decide +kernel
theorem dX0_place_128 : decode cX0_place 128 = .ok (.ireturn, 1) := by decide +kernel
theorem dX0_place_129 : decode cX0_place 129 = .ok (.iinc 4 1, 3) := by decide +kernel
theorem dX0_place_132 : decode cX0_place 132 = .ok (.goto (-37), 3) := by decide +kernel
theorem dX0_place_135 : decode cX0_place 135 = .ok (.iconst 0, 1) := by decide +kernel
theorem dX0_place_136 : decode cX0_place 136 = .ok (.ireturn, 1) := by decide +kernel
theorem dX0_placeBehind_0 : decode cX0_placeBehind 0 = .ok (.aload_n 0, 1) := by decide +kernel
theorem dX0_placeBehind_1 : decode cX0_placeBehind 1 = .ok (.iload_n 2, 1) := by decide +kernel
theorem dX0_placeBehind_2 : decode cX0_placeBehind 2 = .ok (.invokevirtual 138, 3) := by decide +kernel
theorem dX0_placeBehind_5 : decode cX0_placeBehind 5 = .ok (.istore_n 3, 1) := by decide +kernel
theorem dX0_placeBehind_6 : decode cX0_placeBehind 6 = .ok (.iload_n 3, 1) := by decide +kernel
theorem dX0_placeBehind_7 : decode cX0_placeBehind 7 = .ok (.bipush 64, 2) := by decide +kernel
theorem dX0_placeBehind_9 : decode cX0_placeBehind 9 = .ok (.idiv, 1) := by decide +kernel
theorem dX0_placeBehind_10 : decode cX0_placeBehind 10 = .ok (.istore 4, 2) := by decide +kernel
theorem dX0_placeBehind_12 : decode cX0_placeBehind 12 = .ok (.iload 4, 2) := by decide +kernel
theorem dX0_placeBehind_14 : decode cX0_placeBehind 14 = .ok (.ifCond .lt 32, 3) := by decide +kernel
theorem dX0_placeBehind_17 : decode cX0_placeBehind 17 = .ok (.iload 4, 2) := by decide +kernel
theorem dX0_placeBehind_19 : decode cX0_placeBehind 19 = .ok (.aload_n 0, 1) := by decide +kernel
theorem dX0_placeBehind_20 : decode cX0_placeBehind 20 = .ok (.getfield 39, 3) := by decide +kernel
theorem dX0_placeBehind_23 : decode cX0_placeBehind 23 = .ok (.arraylength, 1) := by decide +kernel
theorem dX0_placeBehind_24 : decode cX0_placeBehind 24 = .ok (.if_icmp .ge 22, 3) := by decide +kernel
theorem dX0_placeBehind_27 : decode cX0_placeBehind 27 = .ok (.aload_n 0, 1) := by decide +kernel
theorem dX0_placeBehind_28 : decode cX0_placeBehind 28 = .ok (.getfield 39, 3) := by decide +kernel
theorem dX0_placeBehind_31 : decode cX0_placeBehind 31 = .ok (.iload 4, 2) := by decide +kernel
theorem dX0_placeBehind_33 : decode cX0_placeBehind 33 = .ok (.laload, 1) := by decide +kernel
theorem dX0_placeBehind_34 : decode cX0_placeBehind 34 = .ok (.iload_n 3, 1) := by decide +kernel
theorem dX0_placeBehind_35 : decode cX0_placeBehind 35 = .ok (.bipush 64, 2) := by decide +kernel
theorem dX0_placeBehind_37 : decode cX0_placeBehind 37 = .ok (.irem, 1) := by decide +kernel
theorem dX0_placeBehind_38 : decode cX0_placeBehind 38 = .ok (.lushr, 1) := by decide +kernel
theorem dX0_placeBehind_39 : decode cX0_placeBehind 39 = .ok (.lconst 1, 1) := by decide +kernel
theorem dX0_placeBehind_40 : decode cX0_placeBehind 40 = .ok (.land, 1) := by decide +kernel
theorem dX0_placeBehind_41 : decode cX0_placeBehind 41 = .ok (.lconst 0, 1) := by decide +kernel
theorem dX0_placeBehind_42 : decode cX0_placeBehind 42 = .ok (.lcmp, 1) := by decide +kernel
theorem dX0_placeBehind_43 : decode cX0_placeBehind 43 = .ok (.ifCond .eq 5, 3) := by decide +kernel
theorem dX0_placeBehind_46 : decode cX0_placeBehind 46 = .ok (.iconst 0, 1) := by decide +kernel
theorem dX0_placeBehind_47 : decode cX0_placeBehind 47 = .ok (.ireturn, 1) := by decide +kernel
theorem dX0_placeBehind_48 : decode cX0_placeBehind 48 = .ok (.aload_n 0, 1) := by decide +kernel
theorem dX0_placeBehind_49 : decode cX0_placeBehind 49 = .ok (.getfield 39, 3) := by decide +kernel
theorem dX0_placeBehind_52 : decode cX0_placeBehind 52 = .ok (.iload 4, 2) := by decide +kernel
theorem dX0_placeBehind_54 : decode cX0_placeBehind 54 = .ok (.dup2, 1) := by decide +kernel
theorem dX0_placeBehind_55 : decode cX0_placeBehind 55 = .ok (.laload, 1) := by decide +kernel
theorem dX0_placeBehind_56 : decode cX0_placeBehind 56 = .ok (.lconst 1, 1) := by decide +kernel
theorem dX0_placeBehind_57 : decode cX0_placeBehind 57 = .ok (.iload_n 3, 1) := by decide +kernel
theorem dX0_placeBehind_58 : decode cX0_placeBehind 58 = .ok (.bipush 64, 2) := by decide +kernel
theorem dX0_placeBehind_60 : decode cX0_placeBehind 60 = .ok (.irem, 1) := by decide +kernel
theorem dX0_placeBehind_61 : decode cX0_placeBehind 61 = .ok (.lshl, 1) := by decide +kernel
theorem dX0_placeBehind_62 : decode cX0_placeBehind 62 = .ok (.lor, 1) := by decide +kernel
theorem dX0_placeBehind_63 : decode cX0_placeBehind 63 = .ok (.lastore, 1) := by decide +kernel
theorem dX0_placeBehind_64 : decode cX0_placeBehind 64 = .ok (.aload_n 0, 1) := by decide +kernel
theorem dX0_placeBehind_65 : decode cX0_placeBehind 65 = .ok (.iload_n 1, 1) := by decide +kernel
theorem dX0_placeBehind_66 : decode cX0_placeBehind 66 = .ok (.iload_n 2, 1) := by decide +kernel
theorem dX0_placeBehind_67 : decode cX0_placeBehind 67 = .ok (.iconst 0, 1) := by decide +kernel
theorem dX0_placeBehind_68 : decode cX0_placeBehind 68 = .ok (.invokevirtual 125, 3) := by decide +kernel
theorem dX0_placeBehind_71 : decode cX0_placeBehind 71 = .ok (.ireturn, 1) := by decide +kernel
theorem dX0_limpersRow_0 : decode cX0_limpersRow 0 = .ok (.iconst 0, 1) := by decide +kernel
theorem dX0_limpersRow_1 : decode cX0_limpersRow 1 = .ok (.istore_n 2, 1) := by decide +kernel
theorem dX0_limpersRow_2 : decode cX0_limpersRow 2 = .ok (.iconst 0, 1) := by decide +kernel
theorem dX0_limpersRow_3 : decode cX0_limpersRow 3 = .ok (.istore_n 3, 1) := by decide +kernel
theorem dX0_limpersRow_4 : decode cX0_limpersRow 4 = .ok (.iload_n 3, 1) := by decide +kernel
theorem dX0_limpersRow_5 : decode cX0_limpersRow 5 = .ok (.aload_n 0, 1) := by decide +kernel
theorem dX0_limpersRow_6 : decode cX0_limpersRow 6 = .ok (.getfield 53, 3) := by decide +kernel
theorem dX0_limpersRow_9 : decode cX0_limpersRow 9 = .ok (.if_icmp .ge 36, 3) := by decide +kernel
theorem dX0_limpersRow_12 : decode cX0_limpersRow 12 = .ok (.bipush 7, 2) := by decide +kernel
theorem dX0_limpersRow_14 : decode cX0_limpersRow 14 = .ok (.iload_n 2, 1) := by decide +kernel
theorem dX0_limpersRow_15 : decode cX0_limpersRow 15 = .ok (.imul, 1) := by decide +kernel
theorem dX0_limpersRow_16 : decode cX0_limpersRow 16 = .ok (.aload_n 0, 1) := by decide +kernel
theorem dX0_limpersRow_17 : decode cX0_limpersRow 17 = .ok (.iload_n 1, 1) := by decide +kernel
theorem dX0_limpersRow_18 : decode cX0_limpersRow 18 = .ok (.iload_n 3, 1) := by decide +kernel
theorem dX0_limpersRow_19 : decode cX0_limpersRow 19 = .ok (.invokevirtual 112, 3) := by decide +kernel
theorem dX0_limpersRow_22 : decode cX0_limpersRow 22 = .ok (.ifCond .eq 14, 3) := by decide +kernel
theorem dX0_limpersRow_25 : decode cX0_limpersRow 25 = .ok (.aload_n 0, 1) := by decide +kernel
theorem dX0_limpersRow_26 : decode cX0_limpersRow 26 = .ok (.iload_n 1, 1) := by decide +kernel
theorem dX0_limpersRow_27 : decode cX0_limpersRow 27 = .ok (.iconst 1, 1) := by decide +kernel
theorem dX0_limpersRow_28 : decode cX0_limpersRow 28 = .ok (.isub, 1) := by decide +kernel
theorem dX0_limpersRow_29 : decode cX0_limpersRow 29 = .ok (.iload_n 3, 1) := by decide +kernel
theorem dX0_limpersRow_30 : decode cX0_limpersRow 30 = .ok (.invokevirtual 116, 3) := by decide +kernel
theorem dX0_limpersRow_33 : decode cX0_limpersRow 33 = .ok (.goto 4, 3) := by decide +kernel
theorem dX0_limpersRow_36 : decode cX0_limpersRow 36 = .ok (.iconst 0, 1) := by decide +kernel
theorem dX0_limpersRow_37 : decode cX0_limpersRow 37 = .ok (.iadd, 1) := by decide +kernel
theorem dX0_limpersRow_38 : decode cX0_limpersRow 38 = .ok (.istore_n 2, 1) := by decide +kernel
theorem dX0_limpersRow_39 : decode cX0_limpersRow 39 = .ok (.iinc 3 1, 3) := by decide +kernel
theorem dX0_limpersRow_42 : decode cX0_limpersRow 42 = .ok (.goto (-38), 3) := by decide +kernel
theorem dX0_limpersRow_45 : decode cX0_limpersRow 45 = .ok (.iload_n 2, 1) := by decide +kernel
theorem dX0_limpersRow_46 : decode cX0_limpersRow 46 = .ok (.ireturn, 1) := by decide +kernel
theorem dX0_rowsFor_0 : decode cX0_rowsFor 0 = .ok (.aload_n 0, 1) := by decide +kernel
theorem dX0_rowsFor_1 : decode cX0_rowsFor 1 = .ok (.iconst 0, 1) := by decide +kernel
theorem dX0_rowsFor_2 : decode cX0_rowsFor 2 = .ok (.invokevirtual 89, 3) := by decide +kernel
theorem dX0_rowsFor_5 : decode cX0_rowsFor 5 = .ok (.aload_n 0, 1) := by decide +kernel
theorem dX0_rowsFor_6 : decode cX0_rowsFor 6 = .ok (.iload_n 1, 1) := by decide +kernel
theorem dX0_rowsFor_7 : decode cX0_rowsFor 7 = .ok (.iconst 0, 1) := by decide +kernel
theorem dX0_rowsFor_8 : decode cX0_rowsFor 8 = .ok (.invokevirtual 141, 3) := by decide +kernel
theorem dX0_rowsFor_11 : decode cX0_rowsFor 11 = .ok (.lreturn, 1) := by decide +kernel
theorem dX0_countRows_0 : decode cX0_countRows 0 = .ok (.aload_n 0, 1) := by decide +kernel
theorem dX0_countRows_1 : decode cX0_countRows 1 = .ok (.iload_n 1, 1) := by decide +kernel
theorem dX0_countRows_2 : decode cX0_countRows 2 = .ok (.iconst 0, 1) := by decide +kernel
theorem dX0_countRows_3 : decode cX0_countRows 3 = .ok (.iload_n 2, 1) := by decide +kernel
theorem dX0_countRows_4 : decode cX0_countRows 4 = .ok (.invokevirtual 129, 3) := by decide +kernel
theorem dX0_countRows_7 : decode cX0_countRows 7 = .ok (.ifCond .ne 5, 3) := by decide +kernel
theorem dX0_countRows_10 : decode cX0_countRows 10 = .ok (.lconst 0, 1) := by decide +kernel
theorem dX0_countRows_11 : decode cX0_countRows 11 = .ok (.lreturn, 1) := by decide +kernel
theorem dX0_countRows_12 : decode cX0_countRows 12 = .ok (.iload_n 2, 1) := by decide +kernel
theorem dX0_countRows_13 : decode cX0_countRows 13 = .ok (.aload_n 0, 1) := by decide +kernel
theorem dX0_countRows_14 : decode cX0_countRows 14 = .ok (.getfield 53, 3) := by decide +kernel
theorem dX0_countRows_17 : decode cX0_countRows 17 = .ok (.if_icmp .lt 5, 3) := by decide +kernel
theorem dX0_countRows_20 : decode cX0_countRows 20 = .ok (.lconst 1, 1) := by decide +kernel
theorem dX0_countRows_21 : decode cX0_countRows 21 = .ok (.lreturn, 1) := by decide +kernel
theorem dX0_countRows_22 : decode cX0_countRows 22 = .ok (.lconst 0, 1) := by decide +kernel
theorem dX0_countRows_23 : decode cX0_countRows 23 = .ok (.lstore_n 3, 1) := by decide +kernel
theorem dX0_countRows_24 : decode cX0_countRows 24 = .ok (.iconst 0, 1) := by decide +kernel
theorem dX0_countRows_25 : decode cX0_countRows 25 = .ok (.istore 5, 2) := by decide +kernel
theorem dX0_countRows_27 : decode cX0_countRows 27 = .ok (.iload 5, 2) := by decide +kernel
theorem dX0_countRows_29 : decode cX0_countRows 29 = .ok (.aload_n 0, 1) := by decide +kernel
theorem dX0_countRows_30 : decode cX0_countRows 30 = .ok (.getfield 12, 3) := by decide +kernel
theorem dX0_countRows_33 : decode cX0_countRows 33 = .ok (.getfield 97, 3) := by decide +kernel
theorem dX0_countRows_36 : decode cX0_countRows 36 = .ok (.if_icmp .ge 28, 3) := by decide +kernel
theorem dX0_countRows_39 : decode cX0_countRows 39 = .ok (.aload_n 0, 1) := by decide +kernel
theorem dX0_countRows_40 : decode cX0_countRows 40 = .ok (.iconst 0, 1) := by decide +kernel
theorem dX0_countRows_41 : decode cX0_countRows 41 = .ok (.iload_n 2, 1) := by decide +kernel
theorem dX0_countRows_42 : decode cX0_countRows 42 = .ok (.iload 5, 2) := by decide +kernel
theorem dX0_countRows_44 : decode cX0_countRows 44 = .ok (.invokevirtual 70, 3) := by decide +kernel
theorem dX0_countRows_47 : decode cX0_countRows 47 = .ok (.lload_n 3, 1) := by decide +kernel
theorem dX0_countRows_48 : decode cX0_countRows 48 = .ok (.aload_n 0, 1) := by decide +kernel
theorem dX0_countRows_49 : decode cX0_countRows 49 = .ok (.iload_n 1, 1) := by decide +kernel
theorem dX0_countRows_50 : decode cX0_countRows 50 = .ok (.iload_n 2, 1) := by decide +kernel
theorem dX0_countRows_51 : decode cX0_countRows 51 = .ok (.iconst 1, 1) := by decide +kernel
theorem dX0_countRows_52 : decode cX0_countRows 52 = .ok (.iadd, 1) := by decide +kernel
theorem dX0_countRows_53 : decode cX0_countRows 53 = .ok (.invokevirtual 141, 3) := by decide +kernel
theorem dX0_countRows_56 : decode cX0_countRows 56 = .ok (.ladd, 1) := by decide +kernel
theorem dX0_countRows_57 : decode cX0_countRows 57 = .ok (.lstore_n 3, 1) := by decide +kernel
theorem dX0_countRows_58 : decode cX0_countRows 58 = .ok (.iinc 5 1, 3) := by decide +kernel
theorem dX0_countRows_61 : decode cX0_countRows 61 = .ok (.goto (-34), 3) := by decide +kernel
theorem dX0_countRows_64 : decode cX0_countRows 64 = .ok (.lload_n 3, 1) := by decide +kernel
theorem dX0_countRows_65 : decode cX0_countRows 65 = .ok (.lreturn, 1) := by decide +kernel
theorem dX0_isOpen_0 : decode cX0_isOpen 0 = .ok (.aload_n 0, 1) := by decide +kernel
theorem dX0_isOpen_1 : decode cX0_isOpen 1 = .ok (.iload_n 2, 1) := by decide +kernel
theorem dX0_isOpen_2 : decode cX0_isOpen 2 = .ok (.iload_n 3, 1) := by decide +kernel
theorem dX0_isOpen_3 : decode cX0_isOpen 3 = .ok (.invokevirtual 93, 3) := by decide +kernel
theorem dX0_isOpen_6 : decode cX0_isOpen 6 = .ok (.iconst 0, 1) := by decide +kernel
theorem dX0_isOpen_7 : decode cX0_isOpen 7 = .ok (.istore 4, 2) := by decide +kernel
theorem dX0_isOpen_9 : decode cX0_isOpen 9 = .ok (.iconst 0, 1) := by decide +kernel
theorem dX0_isOpen_10 : decode cX0_isOpen 10 = .ok (.istore 5, 2) := by decide +kernel
theorem dX0_isOpen_12 : decode cX0_isOpen 12 = .ok (.iload 5, 2) := by decide +kernel
theorem dX0_isOpen_14 : decode cX0_isOpen 14 = .ok (.aload_n 0, 1) := by decide +kernel
theorem dX0_isOpen_15 : decode cX0_isOpen 15 = .ok (.getfield 12, 3) := by decide +kernel
theorem dX0_isOpen_18 : decode cX0_isOpen 18 = .ok (.getfield 97, 3) := by decide +kernel
theorem dX0_isOpen_21 : decode cX0_isOpen 21 = .ok (.if_icmp .ge 62, 3) := by decide +kernel
theorem dX0_isOpen_24 : decode cX0_isOpen 24 = .ok (.aload_n 0, 1) := by decide +kernel
theorem dX0_isOpen_25 : decode cX0_isOpen 25 = .ok (.iload 5, 2) := by decide +kernel
theorem dX0_isOpen_27 : decode cX0_isOpen 27 = .ok (.invokevirtual 100, 3) := by decide +kernel
theorem dX0_isOpen_30 : decode cX0_isOpen 30 = .ok (.istore 6, 2) := by decide +kernel
theorem dX0_isOpen_32 : decode cX0_isOpen 32 = .ok (.iload_n 1, 1) := by decide +kernel
theorem dX0_isOpen_33 : decode cX0_isOpen 33 = .ok (.iload 5, 2) := by decide +kernel
theorem dX0_isOpen_35 : decode cX0_isOpen 35 = .ok (.ishr, 1) := by decide +kernel
theorem dX0_isOpen_36 : decode cX0_isOpen 36 = .ok (.iconst 1, 1) := by decide +kernel
theorem dX0_isOpen_37 : decode cX0_isOpen 37 = .ok (.iand, 1) := by decide +kernel
theorem dX0_isOpen_38 : decode cX0_isOpen 38 = .ok (.ifCond .eq 7, 3) := by decide +kernel
theorem dX0_isOpen_41 : decode cX0_isOpen 41 = .ok (.iconst 1, 1) := by decide +kernel
theorem dX0_isOpen_42 : decode cX0_isOpen 42 = .ok (.goto 4, 3) := by decide +kernel
theorem dX0_isOpen_45 : decode cX0_isOpen 45 = .ok (.iconst 0, 1) := by decide +kernel
theorem dX0_isOpen_46 : decode cX0_isOpen 46 = .ok (.istore 7, 2) := by decide +kernel
theorem dX0_isOpen_48 : decode cX0_isOpen 48 = .ok (.iload 7, 2) := by decide +kernel
theorem dX0_isOpen_50 : decode cX0_isOpen 50 = .ok (.ifCond .ne 10, 3) := by decide +kernel
theorem dX0_isOpen_53 : decode cX0_isOpen 53 = .ok (.iload 6, 2) := by decide +kernel
theorem dX0_isOpen_55 : decode cX0_isOpen 55 = .ok (.ifCond .gt 5, 3) := by decide +kernel
theorem dX0_isOpen_58 : decode cX0_isOpen 58 = .ok (.iconst 0, 1) := by decide +kernel
theorem dX0_isOpen_59 : decode cX0_isOpen 59 = .ok (.ireturn, 1) := by decide +kernel
theorem dX0_isOpen_60 : decode cX0_isOpen 60 = .ok (.iload 7, 2) := by decide +kernel
theorem dX0_isOpen_62 : decode cX0_isOpen 62 = .ok (.ifCond .eq 15, 3) := by decide +kernel
theorem dX0_isOpen_65 : decode cX0_isOpen 65 = .ok (.iload 6, 2) := by decide +kernel
theorem dX0_isOpen_67 : decode cX0_isOpen 67 = .ok (.ifCond .le 10, 3) := by decide +kernel
theorem dX0_isOpen_70 : decode cX0_isOpen 70 = .ok (.iload 4, 2) := by decide +kernel
theorem dX0_isOpen_72 : decode cX0_isOpen 72 = .ok (.iload 6, 2) := by decide +kernel
theorem dX0_isOpen_74 : decode cX0_isOpen 74 = .ok (.iadd, 1) := by decide +kernel
theorem dX0_isOpen_75 : decode cX0_isOpen 75 = .ok (.istore 4, 2) := by decide +kernel
theorem dX0_isOpen_77 : decode cX0_isOpen 77 = .ok (.iinc 5 1, 3) := by decide +kernel
theorem dX0_isOpen_80 : decode cX0_isOpen 80 = .ok (.goto (-68), 3) := by decide +kernel
theorem dX0_isOpen_83 : decode cX0_isOpen 83 = .ok (.iload 4, 2) := by decide +kernel
theorem dX0_isOpen_85 : decode cX0_isOpen 85 = .ok (.aload_n 0, 1) := by decide +kernel
theorem dX0_isOpen_86 : decode cX0_isOpen 86 = .ok (.iload_n 2, 1) := by decide +kernel
theorem dX0_isOpen_87 : decode cX0_isOpen 87 = .ok (.iload_n 3, 1) := by decide +kernel
theorem dX0_isOpen_88 : decode cX0_isOpen 88 = .ok (.invokevirtual 145, 3) := by decide +kernel
theorem dX0_isOpen_91 : decode cX0_isOpen 91 = .ok (.if_icmp .gt 7, 3) := by decide +kernel
theorem dX0_isOpen_94 : decode cX0_isOpen 94 = .ok (.iconst 1, 1) := by decide +kernel
theorem dX0_isOpen_95 : decode cX0_isOpen 95 = .ok (.goto 4, 3) := by decide +kernel
theorem dX0_isOpen_98 : decode cX0_isOpen 98 = .ok (.iconst 0, 1) := by decide +kernel
theorem dX0_isOpen_99 : decode cX0_isOpen 99 = .ok (.ireturn, 1) := by decide +kernel
theorem dX0_weightToCome_0 : decode cX0_weightToCome 0 = .ok (.iconst 0, 1) := by decide +kernel
theorem dX0_weightToCome_1 : decode cX0_weightToCome 1 = .ok (.istore_n 3, 1) := by decide +kernel
theorem dX0_weightToCome_2 : decode cX0_weightToCome 2 = .ok (.iload_n 2, 1) := by decide +kernel
theorem dX0_weightToCome_3 : decode cX0_weightToCome 3 = .ok (.istore 4, 2) := by decide +kernel
theorem dX0_weightToCome_5 : decode cX0_weightToCome 5 = .ok (.iload 4, 2) := by decide +kernel
theorem dX0_weightToCome_7 : decode cX0_weightToCome 7 = .ok (.aload_n 0, 1) := by decide +kernel
theorem dX0_weightToCome_8 : decode cX0_weightToCome 8 = .ok (.getfield 53, 3) := by decide +kernel
theorem dX0_weightToCome_11 : decode cX0_weightToCome 11 = .ok (.if_icmp .ge 28, 3) := by decide +kernel
theorem dX0_weightToCome_14 : decode cX0_weightToCome 14 = .ok (.aload_n 0, 1) := by decide +kernel
theorem dX0_weightToCome_15 : decode cX0_weightToCome 15 = .ok (.iload_n 1, 1) := by decide +kernel
theorem dX0_weightToCome_16 : decode cX0_weightToCome 16 = .ok (.iload 4, 2) := by decide +kernel
theorem dX0_weightToCome_18 : decode cX0_weightToCome 18 = .ok (.invokevirtual 112, 3) := by decide +kernel
theorem dX0_weightToCome_21 : decode cX0_weightToCome 21 = .ok (.ifCond .ne 12, 3) := by decide +kernel
theorem dX0_weightToCome_24 : decode cX0_weightToCome 24 = .ok (.iload_n 3, 1) := by decide +kernel
theorem dX0_weightToCome_25 : decode cX0_weightToCome 25 = .ok (.aload_n 0, 1) := by decide +kernel
theorem dX0_weightToCome_26 : decode cX0_weightToCome 26 = .ok (.iload 4, 2) := by decide +kernel
theorem dX0_weightToCome_28 : decode cX0_weightToCome 28 = .ok (.invokevirtual 119, 3) := by decide +kernel
theorem dX0_weightToCome_31 : decode cX0_weightToCome 31 = .ok (.iadd, 1) := by decide +kernel
theorem dX0_weightToCome_32 : decode cX0_weightToCome 32 = .ok (.istore_n 3, 1) := by decide +kernel
theorem dX0_weightToCome_33 : decode cX0_weightToCome 33 = .ok (.iinc 4 1, 3) := by decide +kernel
theorem dX0_weightToCome_36 : decode cX0_weightToCome 36 = .ok (.goto (-31), 3) := by decide +kernel
theorem dX0_weightToCome_39 : decode cX0_weightToCome 39 = .ok (.iload_n 3, 1) := by decide +kernel
theorem dX0_weightToCome_40 : decode cX0_weightToCome 40 = .ok (.ireturn, 1) := by decide +kernel
theorem dX1_init_0 : decode cX1_init 0 = .ok (.aload_n 0, 1) := by decide +kernel
theorem dX1_init_1 : decode cX1_init 1 = .ok (.invokespecial 3, 3) := by decide +kernel
theorem dX1_init_4 : decode cX1_init 4 = .ok (.aload_n 0, 1) := by decide +kernel
theorem dX1_init_5 : decode cX1_init 5 = .ok (.bipush 6, 2) := by decide +kernel
theorem dX1_init_7 : decode cX1_init 7 = .ok (.newarray .int, 2) := by decide +kernel
theorem dX1_init_9 : decode cX1_init 9 = .ok (.putfield 11, 3) := by decide +kernel
theorem dX1_init_12 : decode cX1_init 12 = .ok (.return_, 1) := by decide +kernel
theorem dX2_init_0 : decode cX2_init 0 = .ok (.aload_n 0, 1) := by decide +kernel
theorem dX2_init_1 : decode cX2_init 1 = .ok (.invokespecial 3, 3) := by decide +kernel
theorem dX2_init_4 : decode cX2_init 4 = .ok (.aload_n 0, 1) := by decide +kernel
theorem dX2_init_5 : decode cX2_init 5 = .ok (.bipush 7, 2) := by decide +kernel
theorem dX2_init_7 : decode cX2_init 7 = .ok (.newarray .int, 2) := by decide +kernel
theorem dX2_init_9 : decode cX2_init 9 = .ok (.putfield 11, 3) := by decide +kernel
theorem dX2_init_12 : decode cX2_init 12 = .ok (.aload_n 0, 1) := by decide +kernel
theorem dX2_init_13 : decode cX2_init 13 = .ok (.iconst 4, 1) := by decide +kernel
theorem dX2_init_14 : decode cX2_init 14 = .ok (.newarray .int, 2) := by decide +kernel
theorem dX2_init_16 : decode cX2_init 16 = .ok (.putfield 15, 3) := by decide +kernel
theorem dX2_init_19 : decode cX2_init 19 = .ok (.aload_n 0, 1) := by decide +kernel
theorem dX2_init_20 : decode cX2_init 20 = .ok (.bipush 24, 2) := by decide +kernel
theorem dX2_init_22 : decode cX2_init 22 = .ok (.newarray .int, 2) := by decide +kernel
theorem dX2_init_24 : decode cX2_init 24 = .ok (.putfield 18, 3) := by decide +kernel
theorem dX2_init_27 : decode cX2_init 27 = .ok (.return_, 1) := by decide +kernel
theorem dX2_clear_0 : decode cX2_clear 0 = .ok (.aload_n 0, 1) := by decide +kernel
theorem dX2_clear_1 : decode cX2_clear 1 = .ok (.iconst 0, 1) := by decide +kernel
theorem dX2_clear_2 : decode cX2_clear 2 = .ok (.putfield 21, 3) := by decide +kernel
theorem dX2_clear_5 : decode cX2_clear 5 = .ok (.aload_n 0, 1) := by decide +kernel
theorem dX2_clear_6 : decode cX2_clear 6 = .ok (.iconst 0, 1) := by decide +kernel
theorem dX2_clear_7 : decode cX2_clear 7 = .ok (.putfield 25, 3) := by decide +kernel
theorem dX2_clear_10 : decode cX2_clear 10 = .ok (.return_, 1) := by decide +kernel
theorem dX2_becomeLike_0 : decode cX2_becomeLike 0 = .ok (.aload_n 0, 1) := by decide +kernel
theorem dX2_becomeLike_1 : decode cX2_becomeLike 1 = .ok (.aload_n 1, 1) := by decide +kernel
theorem dX2_becomeLike_2 : decode cX2_becomeLike 2 = .ok (.getfield 21, 3) := by decide +kernel
theorem dX2_becomeLike_5 : decode cX2_becomeLike 5 = .ok (.putfield 21, 3) := by decide +kernel
theorem dX2_becomeLike_8 : decode cX2_becomeLike 8 = .ok (.aload_n 0, 1) := by decide +kernel
theorem dX2_becomeLike_9 : decode cX2_becomeLike 9 = .ok (.aload_n 1, 1) := by decide +kernel
theorem dX2_becomeLike_10 : decode cX2_becomeLike 10 = .ok (.getfield 25, 3) := by decide +kernel
theorem dX2_becomeLike_13 : decode cX2_becomeLike 13 = .ok (.putfield 25, 3) := by decide +kernel
theorem dX2_becomeLike_16 : decode cX2_becomeLike 16 = .ok (.aload_n 1, 1) := by decide +kernel
theorem dX2_becomeLike_17 : decode cX2_becomeLike 17 = .ok (.getfield 11, 3) := by decide +kernel
theorem dX2_becomeLike_20 : decode cX2_becomeLike 20 = .ok (.iconst 0, 1) := by decide +kernel
theorem dX2_becomeLike_21 : decode cX2_becomeLike 21 = .ok (.aload_n 0, 1) := by decide +kernel
theorem dX2_becomeLike_22 : decode cX2_becomeLike 22 = .ok (.getfield 11, 3) := by decide +kernel
theorem dX2_becomeLike_25 : decode cX2_becomeLike 25 = .ok (.iconst 0, 1) := by decide +kernel
theorem dX2_becomeLike_26 : decode cX2_becomeLike 26 = .ok (.bipush 7, 2) := by decide +kernel
theorem dX2_becomeLike_28 : decode cX2_becomeLike 28 = .ok (.invokestatic 28, 3) := by decide +kernel
theorem dX2_becomeLike_31 : decode cX2_becomeLike 31 = .ok (.aload_n 1, 1) := by decide +kernel
theorem dX2_becomeLike_32 : decode cX2_becomeLike 32 = .ok (.getfield 15, 3) := by decide +kernel
theorem dX2_becomeLike_35 : decode cX2_becomeLike 35 = .ok (.iconst 0, 1) := by decide +kernel
theorem dX2_becomeLike_36 : decode cX2_becomeLike 36 = .ok (.aload_n 0, 1) := by decide +kernel
theorem dX2_becomeLike_37 : decode cX2_becomeLike 37 = .ok (.getfield 15, 3) := by decide +kernel
theorem dX2_becomeLike_40 : decode cX2_becomeLike 40 = .ok (.iconst 0, 1) := by decide +kernel
theorem dX2_becomeLike_41 : decode cX2_becomeLike 41 = .ok (.iconst 4, 1) := by decide +kernel
theorem dX2_becomeLike_42 : decode cX2_becomeLike 42 = .ok (.invokestatic 28, 3) := by decide +kernel
theorem dX2_becomeLike_45 : decode cX2_becomeLike 45 = .ok (.aload_n 1, 1) := by decide +kernel
theorem dX2_becomeLike_46 : decode cX2_becomeLike 46 = .ok (.getfield 18, 3) := by decide +kernel
theorem dX2_becomeLike_49 : decode cX2_becomeLike 49 = .ok (.iconst 0, 1) := by decide +kernel
theorem dX2_becomeLike_50 : decode cX2_becomeLike 50 = .ok (.aload_n 0, 1) := by decide +kernel
theorem dX2_becomeLike_51 : decode cX2_becomeLike 51 = .ok (.getfield 18, 3) := by decide +kernel
theorem dX2_becomeLike_54 : decode cX2_becomeLike 54 = .ok (.iconst 0, 1) := by decide +kernel
theorem dX2_becomeLike_55 : decode cX2_becomeLike 55 = .ok (.bipush 24, 2) := by decide +kernel
theorem dX2_becomeLike_57 : decode cX2_becomeLike 57 = .ok (.invokestatic 28, 3) := by decide +kernel
theorem dX2_becomeLike_60 : decode cX2_becomeLike 60 = .ok (.return_, 1) := by decide +kernel
theorem dX2_addBoard_0 : decode cX2_addBoard 0 = .ok (.aload_n 0, 1) := by decide +kernel
theorem dX2_addBoard_1 : decode cX2_addBoard 1 = .ok (.getfield 21, 3) := by decide +kernel
theorem dX2_addBoard_4 : decode cX2_addBoard 4 = .ok (.bipush 7, 2) := by decide +kernel
theorem dX2_addBoard_6 : decode cX2_addBoard 6 = .ok (.if_icmp .ge 23, 3) := by decide +kernel
theorem dX2_addBoard_9 : decode cX2_addBoard 9 = .ok (.aload_n 0, 1) := by decide +kernel
theorem dX2_addBoard_10 : decode cX2_addBoard 10 = .ok (.getfield 11, 3) := by decide +kernel
theorem dX2_addBoard_13 : decode cX2_addBoard 13 = .ok (.aload_n 0, 1) := by decide +kernel
theorem dX2_addBoard_14 : decode cX2_addBoard 14 = .ok (.getfield 21, 3) := by decide +kernel
theorem dX2_addBoard_17 : decode cX2_addBoard 17 = .ok (.iload_n 1, 1) := by decide +kernel
theorem dX2_addBoard_18 : decode cX2_addBoard 18 = .ok (.iastore, 1) := by decide +kernel
theorem dX2_addBoard_19 : decode cX2_addBoard 19 = .ok (.aload_n 0, 1) := by decide +kernel
theorem dX2_addBoard_20 : decode cX2_addBoard 20 = .ok (.dup, 1) := by decide +kernel
theorem dX2_addBoard_21 : decode cX2_addBoard 21 = .ok (.getfield 21, 3) := by decide +kernel
theorem dX2_addBoard_24 : decode cX2_addBoard 24 = .ok (.iconst 1, 1) := by decide +kernel
theorem dX2_addBoard_25 : decode cX2_addBoard 25 = .ok (.iadd, 1) := by decide +kernel
theorem dX2_addBoard_26 : decode cX2_addBoard 26 = .ok (.putfield 21, 3) := by decide +kernel
theorem dX2_addBoard_29 : decode cX2_addBoard 29 = .ok (.return_, 1) := by decide +kernel
theorem dX2_addDoor_0 : decode cX2_addDoor 0 = .ok (.aload_n 0, 1) := by decide +kernel
theorem dX2_addDoor_1 : decode cX2_addDoor 1 = .ok (.getfield 25, 3) := by decide +kernel
theorem dX2_addDoor_4 : decode cX2_addDoor 4 = .ok (.iconst 4, 1) := by decide +kernel
theorem dX2_addDoor_5 : decode cX2_addDoor 5 = .ok (.if_icmp .lt 5, 3) := by decide +kernel
theorem dX2_addDoor_8 : decode cX2_addDoor 8 = .ok (.iconst 0, 1) := by decide +kernel
theorem dX2_addDoor_9 : decode cX2_addDoor 9 = .ok (.ireturn, 1) := by decide +kernel
theorem dX2_addDoor_10 : decode cX2_addDoor 10 = .ok (.aload_n 0, 1) := by decide +kernel
theorem dX2_addDoor_11 : decode cX2_addDoor 11 = .ok (.getfield 15, 3) := by decide +kernel
theorem dX2_addDoor_14 : decode cX2_addDoor 14 = .ok (.aload_n 0, 1) := by decide +kernel
theorem dX2_addDoor_15 : decode cX2_addDoor 15 = .ok (.getfield 25, 3) := by decide +kernel
theorem dX2_addDoor_18 : decode cX2_addDoor 18 = .ok (.iconst 0, 1) := by decide +kernel
theorem dX2_addDoor_19 : decode cX2_addDoor 19 = .ok (.iastore, 1) := by decide +kernel
theorem dX2_addDoor_20 : decode cX2_addDoor 20 = .ok (.aload_n 0, 1) := by decide +kernel
theorem dX2_addDoor_21 : decode cX2_addDoor 21 = .ok (.dup, 1) := by decide +kernel
theorem dX2_addDoor_22 : decode cX2_addDoor 22 = .ok (.getfield 25, 3) := by decide +kernel
theorem dX2_addDoor_25 : decode cX2_addDoor 25 = .ok (.iconst 1, 1) := by decide +kernel
theorem dX2_addDoor_26 : decode cX2_addDoor 26 = .ok (.iadd, 1) := by decide +kernel
theorem dX2_addDoor_27 : decode cX2_addDoor 27 = .ok (.putfield 25, 3) := by decide +kernel
theorem dX2_addDoor_30 : decode cX2_addDoor 30 = .ok (.aload_n 0, 1) := by decide +kernel
theorem dX2_addDoor_31 : decode cX2_addDoor 31 = .ok (.invokevirtual 34, 3) := by decide +kernel
theorem dX2_addDoor_34 : decode cX2_addDoor 34 = .ok (.ireturn, 1) := by decide +kernel
theorem dX2_addBeat_0 : decode cX2_addBeat 0 = .ok (.aload_n 0, 1) := by decide +kernel
theorem dX2_addBeat_1 : decode cX2_addBeat 1 = .ok (.getfield 25, 3) := by decide +kernel
theorem dX2_addBeat_4 : decode cX2_addBeat 4 = .ok (.iconst 1, 1) := by decide +kernel
theorem dX2_addBeat_5 : decode cX2_addBeat 5 = .ok (.isub, 1) := by decide +kernel
theorem dX2_addBeat_6 : decode cX2_addBeat 6 = .ok (.istore_n 1, 1) := by decide +kernel
theorem dX2_addBeat_7 : decode cX2_addBeat 7 = .ok (.aload_n 0, 1) := by decide +kernel
theorem dX2_addBeat_8 : decode cX2_addBeat 8 = .ok (.iload_n 1, 1) := by decide +kernel
theorem dX2_addBeat_9 : decode cX2_addBeat 9 = .ok (.invokevirtual 38, 3) := by decide +kernel
theorem dX2_addBeat_12 : decode cX2_addBeat 12 = .ok (.ifCond .eq 14, 3) := by decide +kernel
theorem dX2_addBeat_15 : decode cX2_addBeat 15 = .ok (.aload_n 0, 1) := by decide +kernel
theorem dX2_addBeat_16 : decode cX2_addBeat 16 = .ok (.getfield 15, 3) := by decide +kernel
theorem dX2_addBeat_19 : decode cX2_addBeat 19 = .ok (.iload_n 1, 1) := by decide +kernel
theorem dX2_addBeat_20 : decode cX2_addBeat 20 = .ok (.iaload, 1) := by decide +kernel
theorem dX2_addBeat_21 : decode cX2_addBeat 21 = .ok (.bipush 6, 2) := by decide +kernel
theorem dX2_addBeat_23 : decode cX2_addBeat 23 = .ok (.if_icmp .lt 5, 3) := by decide +kernel
theorem dX2_addBeat_26 : decode cX2_addBeat 26 = .ok (.iconst 0, 1) := by decide +kernel
theorem dX2_addBeat_27 : decode cX2_addBeat 27 = .ok (.ireturn, 1) := by decide +kernel
theorem dX2_addBeat_28 : decode cX2_addBeat 28 = .ok (.aload_n 0, 1) := by decide +kernel
theorem dX2_addBeat_29 : decode cX2_addBeat 29 = .ok (.getfield 18, 3) := by decide +kernel
theorem dX2_addBeat_32 : decode cX2_addBeat 32 = .ok (.iload_n 1, 1) := by decide +kernel
theorem dX2_addBeat_33 : decode cX2_addBeat 33 = .ok (.bipush 6, 2) := by decide +kernel
theorem dX2_addBeat_35 : decode cX2_addBeat 35 = .ok (.imul, 1) := by decide +kernel
theorem dX2_addBeat_36 : decode cX2_addBeat 36 = .ok (.aload_n 0, 1) := by decide +kernel
theorem dX2_addBeat_37 : decode cX2_addBeat 37 = .ok (.getfield 15, 3) := by decide +kernel
theorem dX2_addBeat_40 : decode cX2_addBeat 40 = .ok (.iload_n 1, 1) := by decide +kernel
theorem dX2_addBeat_41 : decode cX2_addBeat 41 = .ok (.iaload, 1) := by decide +kernel
theorem dX2_addBeat_42 : decode cX2_addBeat 42 = .ok (.iadd, 1) := by decide +kernel
theorem dX2_addBeat_43 : decode cX2_addBeat 43 = .ok (.iconst 0, 1) := by decide +kernel
theorem dX2_addBeat_44 : decode cX2_addBeat 44 = .ok (.iastore, 1) := by decide +kernel
theorem dX2_addBeat_45 : decode cX2_addBeat 45 = .ok (.aload_n 0, 1) := by decide +kernel
theorem dX2_addBeat_46 : decode cX2_addBeat 46 = .ok (.getfield 15, 3) := by decide +kernel
theorem dX2_addBeat_49 : decode cX2_addBeat 49 = .ok (.iload_n 1, 1) := by decide +kernel
theorem dX2_addBeat_50 : decode cX2_addBeat 50 = .ok (.dup2, 1) := by decide +kernel
theorem dX2_addBeat_51 : decode cX2_addBeat 51 = .ok (.iaload, 1) := by decide +kernel
theorem dX2_addBeat_52 : decode cX2_addBeat 52 = .ok (.iconst 1, 1) := by decide +kernel
theorem dX2_addBeat_53 : decode cX2_addBeat 53 = .ok (.iadd, 1) := by decide +kernel
theorem dX2_addBeat_54 : decode cX2_addBeat 54 = .ok (.iastore, 1) := by decide +kernel
theorem dX2_addBeat_55 : decode cX2_addBeat 55 = .ok (.iconst 1, 1) := by decide +kernel
theorem dX2_addBeat_56 : decode cX2_addBeat 56 = .ok (.ireturn, 1) := by decide +kernel
theorem dX2_addRising_0 : decode cX2_addRising 0 = .ok (.aload_n 0, 1) := by decide +kernel
theorem dX2_addRising_1 : decode cX2_addRising 1 = .ok (.getfield 25, 3) := by decide +kernel
theorem dX2_addRising_4 : decode cX2_addRising 4 = .ok (.iconst 1, 1) := by decide +kernel
theorem dX2_addRising_5 : decode cX2_addRising 5 = .ok (.isub, 1) := by decide +kernel
theorem dX2_addRising_6 : decode cX2_addRising 6 = .ok (.istore_n 2, 1) := by decide +kernel
theorem dX2_addRising_7 : decode cX2_addRising 7 = .ok (.aload_n 0, 1) := by decide +kernel
theorem dX2_addRising_8 : decode cX2_addRising 8 = .ok (.iload_n 2, 1) := by decide +kernel
theorem dX2_addRising_9 : decode cX2_addRising 9 = .ok (.invokevirtual 38, 3) := by decide +kernel
theorem dX2_addRising_12 : decode cX2_addRising 12 = .ok (.ifCond .eq 11, 3) := by decide +kernel
theorem dX2_addRising_15 : decode cX2_addRising 15 = .ok (.aload_n 0, 1) := by decide +kernel
theorem dX2_addRising_16 : decode cX2_addRising 16 = .ok (.iload_n 1, 1) := by decide +kernel
theorem dX2_addRising_17 : decode cX2_addRising 17 = .ok (.invokevirtual 42, 3) := by decide +kernel
theorem dX2_addRising_20 : decode cX2_addRising 20 = .ok (.ifCond .ne 5, 3) := by decide +kernel
theorem dX2_addRising_23 : decode cX2_addRising 23 = .ok (.iconst 0, 1) := by decide +kernel
theorem dX2_addRising_24 : decode cX2_addRising 24 = .ok (.ireturn, 1) := by decide +kernel
theorem dX2_addRising_25 : decode cX2_addRising 25 = .ok (.iload_n 2, 1) := by decide +kernel
theorem dX2_addRising_26 : decode cX2_addRising 26 = .ok (.bipush 6, 2) := by decide +kernel
theorem dX2_addRising_28 : decode cX2_addRising 28 = .ok (.imul, 1) := by decide +kernel
theorem dX2_addRising_29 : decode cX2_addRising 29 = .ok (.aload_n 0, 1) := by decide +kernel
theorem dX2_addRising_30 : decode cX2_addRising 30 = .ok (.getfield 15, 3) := by decide +kernel
theorem dX2_addRising_33 : decode cX2_addRising 33 = .ok (.iload_n 2, 1) := by decide +kernel
theorem dX2_addRising_34 : decode cX2_addRising 34 = .ok (.iaload, 1) := by decide +kernel
theorem dX2_addRising_35 : decode cX2_addRising 35 = .ok (.iadd, 1) := by decide +kernel
theorem dX2_addRising_36 : decode cX2_addRising 36 = .ok (.iconst 1, 1) := by decide +kernel
theorem dX2_addRising_37 : decode cX2_addRising 37 = .ok (.isub, 1) := by decide +kernel
theorem dX2_addRising_38 : decode cX2_addRising 38 = .ok (.istore_n 3, 1) := by decide +kernel
theorem dX2_addRising_39 : decode cX2_addRising 39 = .ok (.iload_n 3, 1) := by decide +kernel
theorem dX2_addRising_40 : decode cX2_addRising 40 = .ok (.ifCond .lt 12, 3) := by decide +kernel
theorem dX2_addRising_43 : decode cX2_addRising 43 = .ok (.iload_n 3, 1) := by decide +kernel
theorem dX2_addRising_44 : decode cX2_addRising 44 = .ok (.aload_n 0, 1) := by decide +kernel
theorem dX2_addRising_45 : decode cX2_addRising 45 = .ok (.getfield 18, 3) := by decide +kernel
theorem dX2_addRising_48 : decode cX2_addRising 48 = .ok (.arraylength, 1) := by decide +kernel
theorem dX2_addRising_49 : decode cX2_addRising 49 = .ok (.if_icmp .lt 5, 3) := by decide +kernel
theorem dX2_addRising_52 : decode cX2_addRising 52 = .ok (.iconst 0, 1) := by decide +kernel
theorem dX2_addRising_53 : decode cX2_addRising 53 = .ok (.ireturn, 1) := by decide +kernel
theorem dX2_addRising_54 : decode cX2_addRising 54 = .ok (.aload_n 0, 1) := by decide +kernel
theorem dX2_addRising_55 : decode cX2_addRising 55 = .ok (.getfield 18, 3) := by decide +kernel
theorem dX2_addRising_58 : decode cX2_addRising 58 = .ok (.iload_n 3, 1) := by decide +kernel
theorem dX2_addRising_59 : decode cX2_addRising 59 = .ok (.iaload, 1) := by decide +kernel
theorem dX2_addRising_60 : decode cX2_addRising 60 = .ok (.iload_n 1, 1) := by decide +kernel
theorem dX2_addRising_61 : decode cX2_addRising 61 = .ok (.ishr, 1) := by decide +kernel
theorem dX2_addRising_62 : decode cX2_addRising 62 = .ok (.ifCond .ne 16, 3) := by decide +kernel
theorem dX2_addRising_65 : decode cX2_addRising 65 = .ok (.aload_n 0, 1) := by decide +kernel
theorem dX2_addRising_66 : decode cX2_addRising 66 = .ok (.getfield 18, 3) := by decide +kernel
theorem dX2_addRising_69 : decode cX2_addRising 69 = .ok (.iload_n 3, 1) := by decide +kernel
theorem dX2_addRising_70 : decode cX2_addRising 70 = .ok (.iaload, 1) := by decide +kernel
theorem dX2_addRising_71 : decode cX2_addRising 71 = .ok (.invokestatic 45, 3) := by decide +kernel
theorem dX2_addRising_74 : decode cX2_addRising 74 = .ok (.iconst 4, 1) := by decide +kernel
theorem dX2_addRising_75 : decode cX2_addRising 75 = .ok (.if_icmp .lt 5, 3) := by decide +kernel
theorem dX2_addRising_78 : decode cX2_addRising 78 = .ok (.iconst 0, 1) := by decide +kernel
theorem dX2_addRising_79 : decode cX2_addRising 79 = .ok (.ireturn, 1) := by decide +kernel
theorem dX2_addRising_80 : decode cX2_addRising 80 = .ok (.aload_n 0, 1) := by decide +kernel
theorem dX2_addRising_81 : decode cX2_addRising 81 = .ok (.getfield 18, 3) := by decide +kernel
theorem dX2_addRising_84 : decode cX2_addRising 84 = .ok (.iload_n 3, 1) := by decide +kernel
theorem dX2_addRising_85 : decode cX2_addRising 85 = .ok (.dup2, 1) := by decide +kernel
theorem dX2_addRising_86 : decode cX2_addRising 86 = .ok (.iaload, 1) := by decide +kernel
theorem dX2_addRising_87 : decode cX2_addRising 87 = .ok (.iconst 1, 1) := by decide +kernel
theorem dX2_addRising_88 : decode cX2_addRising 88 = .ok (.iload_n 1, 1) := by decide +kernel
theorem dX2_addRising_89 : decode cX2_addRising 89 = .ok (.ishl, 1) := by decide +kernel
theorem dX2_addRising_90 : decode cX2_addRising 90 = .ok (.ior, 1) := by decide +kernel
theorem dX2_addRising_91 : decode cX2_addRising 91 = .ok (.iastore, 1) := by decide +kernel
theorem dX2_addRising_92 : decode cX2_addRising 92 = .ok (.iconst 1, 1) := by decide +kernel
theorem dX2_addRising_93 : decode cX2_addRising 93 = .ok (.ireturn, 1) := by decide +kernel
theorem dX2_stands_0 : decode cX2_stands 0 = .ok (.aload_n 0, 1) := by decide +kernel
theorem dX2_stands_1 : decode cX2_stands 1 = .ok (.getfield 25, 3) := by decide +kernel
theorem dX2_stands_4 : decode cX2_stands 4 = .ok (.ifCond .le 7, 3) := by decide +kernel
theorem dX2_stands_7 : decode cX2_stands 7 = .ok (.iconst 1, 1) := by decide +kernel
theorem dX2_stands_8 : decode cX2_stands 8 = .ok (.goto 4, 3) := by decide +kernel
theorem dX2_stands_11 : decode cX2_stands 11 = .ok (.iconst 0, 1) := by decide +kernel
theorem dX2_stands_12 : decode cX2_stands 12 = .ok (.ireturn, 1) := by decide +kernel
theorem dX2_hasBoard_0 : decode cX2_hasBoard 0 = .ok (.iload_n 1, 1) := by decide +kernel
theorem dX2_hasBoard_1 : decode cX2_hasBoard 1 = .ok (.ifCond .lt 21, 3) := by decide +kernel
theorem dX2_hasBoard_4 : decode cX2_hasBoard 4 = .ok (.iload_n 1, 1) := by decide +kernel
theorem dX2_hasBoard_5 : decode cX2_hasBoard 5 = .ok (.aload_n 0, 1) := by decide +kernel
theorem dX2_hasBoard_6 : decode cX2_hasBoard 6 = .ok (.getfield 21, 3) := by decide +kernel
theorem dX2_hasBoard_9 : decode cX2_hasBoard 9 = .ok (.if_icmp .ge 13, 3) := by decide +kernel
theorem dX2_hasBoard_12 : decode cX2_hasBoard 12 = .ok (.iload_n 1, 1) := by decide +kernel
theorem dX2_hasBoard_13 : decode cX2_hasBoard 13 = .ok (.bipush 7, 2) := by decide +kernel
theorem dX2_hasBoard_15 : decode cX2_hasBoard 15 = .ok (.if_icmp .ge 7, 3) := by decide +kernel
theorem dX2_hasBoard_18 : decode cX2_hasBoard 18 = .ok (.iconst 1, 1) := by decide +kernel
theorem dX2_hasBoard_19 : decode cX2_hasBoard 19 = .ok (.goto 4, 3) := by decide +kernel
theorem dX2_hasBoard_22 : decode cX2_hasBoard 22 = .ok (.iconst 0, 1) := by decide +kernel
theorem dX2_hasBoard_23 : decode cX2_hasBoard 23 = .ok (.ireturn, 1) := by decide +kernel
theorem dX2_hasDoor_0 : decode cX2_hasDoor 0 = .ok (.iload_n 1, 1) := by decide +kernel
theorem dX2_hasDoor_1 : decode cX2_hasDoor 1 = .ok (.ifCond .lt 20, 3) := by decide +kernel
theorem dX2_hasDoor_4 : decode cX2_hasDoor 4 = .ok (.iload_n 1, 1) := by decide +kernel
theorem dX2_hasDoor_5 : decode cX2_hasDoor 5 = .ok (.aload_n 0, 1) := by decide +kernel
theorem dX2_hasDoor_6 : decode cX2_hasDoor 6 = .ok (.getfield 25, 3) := by decide +kernel
theorem dX2_hasDoor_9 : decode cX2_hasDoor 9 = .ok (.if_icmp .ge 12, 3) := by decide +kernel
theorem dX2_hasDoor_12 : decode cX2_hasDoor 12 = .ok (.iload_n 1, 1) := by decide +kernel
theorem dX2_hasDoor_13 : decode cX2_hasDoor 13 = .ok (.iconst 4, 1) := by decide +kernel
theorem dX2_hasDoor_14 : decode cX2_hasDoor 14 = .ok (.if_icmp .ge 7, 3) := by decide +kernel
theorem dX2_hasDoor_17 : decode cX2_hasDoor 17 = .ok (.iconst 1, 1) := by decide +kernel
theorem dX2_hasDoor_18 : decode cX2_hasDoor 18 = .ok (.goto 4, 3) := by decide +kernel
theorem dX2_hasDoor_21 : decode cX2_hasDoor 21 = .ok (.iconst 0, 1) := by decide +kernel
theorem dX2_hasDoor_22 : decode cX2_hasDoor 22 = .ok (.ireturn, 1) := by decide +kernel
theorem dX2_hasBeat_0 : decode cX2_hasBeat 0 = .ok (.aload_n 0, 1) := by decide +kernel
theorem dX2_hasBeat_1 : decode cX2_hasBeat 1 = .ok (.iload_n 1, 1) := by decide +kernel
theorem dX2_hasBeat_2 : decode cX2_hasBeat 2 = .ok (.invokevirtual 38, 3) := by decide +kernel
theorem dX2_hasBeat_5 : decode cX2_hasBeat 5 = .ok (.ifCond .eq 27, 3) := by decide +kernel
theorem dX2_hasBeat_8 : decode cX2_hasBeat 8 = .ok (.iload_n 2, 1) := by decide +kernel
theorem dX2_hasBeat_9 : decode cX2_hasBeat 9 = .ok (.ifCond .lt 23, 3) := by decide +kernel
theorem dX2_hasBeat_12 : decode cX2_hasBeat 12 = .ok (.iload_n 2, 1) := by decide +kernel
theorem dX2_hasBeat_13 : decode cX2_hasBeat 13 = .ok (.aload_n 0, 1) := by decide +kernel
theorem dX2_hasBeat_14 : decode cX2_hasBeat 14 = .ok (.getfield 15, 3) := by decide +kernel
theorem dX2_hasBeat_17 : decode cX2_hasBeat 17 = .ok (.iload_n 1, 1) := by decide +kernel
theorem dX2_hasBeat_18 : decode cX2_hasBeat 18 = .ok (.iaload, 1) := by decide +kernel
theorem dX2_hasBeat_19 : decode cX2_hasBeat 19 = .ok (.if_icmp .ge 13, 3) := by decide +kernel
theorem dX2_hasBeat_22 : decode cX2_hasBeat 22 = .ok (.iload_n 2, 1) := by decide +kernel
theorem dX2_hasBeat_23 : decode cX2_hasBeat 23 = .ok (.bipush 6, 2) := by decide +kernel
theorem dX2_hasBeat_25 : decode cX2_hasBeat 25 = .ok (.if_icmp .ge 7, 3) := by decide +kernel
theorem dX2_hasBeat_28 : decode cX2_hasBeat 28 = .ok (.iconst 1, 1) := by decide +kernel
theorem dX2_hasBeat_29 : decode cX2_hasBeat 29 = .ok (.goto 4, 3) := by decide +kernel
theorem dX2_hasBeat_32 : decode cX2_hasBeat 32 = .ok (.iconst 0, 1) := by decide +kernel
theorem dX2_hasBeat_33 : decode cX2_hasBeat 33 = .ok (.ireturn, 1) := by decide +kernel
theorem dX2_beatsOf_0 : decode cX2_beatsOf 0 = .ok (.aload_n 0, 1) := by decide +kernel
theorem dX2_beatsOf_1 : decode cX2_beatsOf 1 = .ok (.iload_n 1, 1) := by decide +kernel
theorem dX2_beatsOf_2 : decode cX2_beatsOf 2 = .ok (.invokevirtual 38, 3) := by decide +kernel
theorem dX2_beatsOf_5 : decode cX2_beatsOf 5 = .ok (.ifCond .eq 12, 3) := by decide +kernel
theorem dX2_beatsOf_8 : decode cX2_beatsOf 8 = .ok (.aload_n 0, 1) := by decide +kernel
theorem dX2_beatsOf_9 : decode cX2_beatsOf 9 = .ok (.getfield 15, 3) := by decide +kernel
theorem dX2_beatsOf_12 : decode cX2_beatsOf 12 = .ok (.iload_n 1, 1) := by decide +kernel
theorem dX2_beatsOf_13 : decode cX2_beatsOf 13 = .ok (.iaload, 1) := by decide +kernel
theorem dX2_beatsOf_14 : decode cX2_beatsOf 14 = .ok (.goto 4, 3) := by decide +kernel
theorem dX2_beatsOf_17 : decode cX2_beatsOf 17 = .ok (.iconst 0, 1) := by decide +kernel
theorem dX2_beatsOf_18 : decode cX2_beatsOf 18 = .ok (.ireturn, 1) := by decide +kernel
theorem dX2_figureAt_0 : decode cX2_figureAt 0 = .ok (.aload_n 0, 1) := by decide +kernel
theorem dX2_figureAt_1 : decode cX2_figureAt 1 = .ok (.iload_n 1, 1) := by decide +kernel
theorem dX2_figureAt_2 : decode cX2_figureAt 2 = .ok (.iload_n 2, 1) := by decide +kernel
theorem dX2_figureAt_3 : decode cX2_figureAt 3 = .ok (.invokevirtual 51, 3) := by decide +kernel
theorem dX2_figureAt_6 : decode cX2_figureAt 6 = .ok (.ifCond .eq 17, 3) := by decide +kernel
theorem dX2_figureAt_9 : decode cX2_figureAt 9 = .ok (.aload_n 0, 1) := by decide +kernel
theorem dX2_figureAt_10 : decode cX2_figureAt 10 = .ok (.getfield 18, 3) := by decide +kernel
theorem dX2_figureAt_13 : decode cX2_figureAt 13 = .ok (.iload_n 1, 1) := by decide +kernel
theorem dX2_figureAt_14 : decode cX2_figureAt 14 = .ok (.bipush 6, 2) := by decide +kernel
theorem dX2_figureAt_16 : decode cX2_figureAt 16 = .ok (.imul, 1) := by decide +kernel
theorem dX2_figureAt_17 : decode cX2_figureAt 17 = .ok (.iload_n 2, 1) := by decide +kernel
theorem dX2_figureAt_18 : decode cX2_figureAt 18 = .ok (.iadd, 1) := by decide +kernel
theorem dX2_figureAt_19 : decode cX2_figureAt 19 = .ok (.iaload, 1) := by decide +kernel
theorem dX2_figureAt_20 : decode cX2_figureAt 20 = .ok (.goto 4, 3) := by decide +kernel
theorem dX2_figureAt_23 : decode cX2_figureAt 23 = .ok (.iconst 0, 1) := by decide +kernel
theorem dX2_figureAt_24 : decode cX2_figureAt 24 = .ok (.ireturn, 1) := by decide +kernel
theorem dX3_init_0 : decode cX3_init 0 = .ok (.aload_n 0, 1) := by decide +kernel
theorem dX3_init_1 : decode cX3_init 1 = .ok (.invokespecial 3, 3) := by decide +kernel
theorem dX3_init_4 : decode cX3_init 4 = .ok (.aload_n 0, 1) := by decide +kernel
theorem dX3_init_5 : decode cX3_init 5 = .ok (.iconst 4, 1) := by decide +kernel
theorem dX3_init_6 : decode cX3_init 6 = .ok (.newarray .int, 2) := by decide +kernel
theorem dX3_init_8 : decode cX3_init 8 = .ok (.putfield 11, 3) := by decide +kernel
theorem dX3_init_11 : decode cX3_init 11 = .ok (.aload_n 0, 1) := by decide +kernel
theorem dX3_init_12 : decode cX3_init 12 = .ok (.iconst 4, 1) := by decide +kernel
theorem dX3_init_13 : decode cX3_init 13 = .ok (.newarray .int, 2) := by decide +kernel
theorem dX3_init_15 : decode cX3_init 15 = .ok (.putfield 15, 3) := by decide +kernel
theorem dX3_init_18 : decode cX3_init 18 = .ok (.aload_n 0, 1) := by decide +kernel
theorem dX3_init_19 : decode cX3_init 19 = .ok (.sipush 320, 3) := by decide +kernel
theorem dX3_init_22 : decode cX3_init 22 = .ok (.newarray .int, 2) := by decide +kernel
theorem dX3_init_24 : decode cX3_init 24 = .ok (.putfield 18, 3) := by decide +kernel
theorem dX3_init_27 : decode cX3_init 27 = .ok (.aload_n 0, 1) := by decide +kernel
theorem dX3_init_28 : decode cX3_init 28 = .ok (.getfield 11, 3) := by decide +kernel
theorem dX3_init_31 : decode cX3_init 31 = .ok (.iconst (-1), 1) := by decide +kernel
theorem dX3_init_32 : decode cX3_init 32 = .ok (.invokestatic 21, 3) := by decide +kernel
theorem dX3_init_35 : decode cX3_init 35 = .ok (.return_, 1) := by decide +kernel
theorem dX3_includes_0 : decode cX3_includes 0 = .ok (.iload_n 1, 1) := by decide +kernel
theorem dX3_includes_1 : decode cX3_includes 1 = .ok (.ifCond .lt 12, 3) := by decide +kernel
theorem dX3_includes_4 : decode cX3_includes 4 = .ok (.iload_n 1, 1) := by decide +kernel
theorem dX3_includes_5 : decode cX3_includes 5 = .ok (.iconst 4, 1) := by decide +kernel
theorem dX3_includes_6 : decode cX3_includes 6 = .ok (.if_icmp .ge 7, 3) := by decide +kernel
theorem dX3_includes_9 : decode cX3_includes 9 = .ok (.iconst 1, 1) := by decide +kernel
theorem dX3_includes_10 : decode cX3_includes 10 = .ok (.goto 4, 3) := by decide +kernel
theorem dX3_includes_13 : decode cX3_includes 13 = .ok (.iconst 0, 1) := by decide +kernel
theorem dX3_includes_14 : decode cX3_includes 14 = .ok (.ireturn, 1) := by decide +kernel
theorem dX3_isNothing_0 : decode cX3_isNothing 0 = .ok (.aload_n 0, 1) := by decide +kernel
theorem dX3_isNothing_1 : decode cX3_isNothing 1 = .ok (.iload_n 1, 1) := by decide +kernel
theorem dX3_isNothing_2 : decode cX3_isNothing 2 = .ok (.invokevirtual 27, 3) := by decide +kernel
theorem dX3_isNothing_5 : decode cX3_isNothing 5 = .ok (.iconst (-1), 1) := by decide +kernel
theorem dX3_isNothing_6 : decode cX3_isNothing 6 = .ok (.if_icmp .ne 7, 3) := by decide +kernel
theorem dX3_isNothing_9 : decode cX3_isNothing 9 = .ok (.iconst 1, 1) := by decide +kernel
theorem dX3_isNothing_10 : decode cX3_isNothing 10 = .ok (.goto 4, 3) := by decide +kernel
theorem dX3_isNothing_13 : decode cX3_isNothing 13 = .ok (.iconst 0, 1) := by decide +kernel
theorem dX3_isNothing_14 : decode cX3_isNothing 14 = .ok (.ireturn, 1) := by decide +kernel
theorem dX3_sortOf_0 : decode cX3_sortOf 0 = .ok (.aload_n 0, 1) := by decide +kernel
theorem dX3_sortOf_1 : decode cX3_sortOf 1 = .ok (.iload_n 1, 1) := by decide +kernel
theorem dX3_sortOf_2 : decode cX3_sortOf 2 = .ok (.invokevirtual 31, 3) := by decide +kernel
theorem dX3_sortOf_5 : decode cX3_sortOf 5 = .ok (.ifCond .eq 12, 3) := by decide +kernel
theorem dX3_sortOf_8 : decode cX3_sortOf 8 = .ok (.aload_n 0, 1) := by decide +kernel
theorem dX3_sortOf_9 : decode cX3_sortOf 9 = .ok (.getfield 11, 3) := by decide +kernel
theorem dX3_sortOf_12 : decode cX3_sortOf 12 = .ok (.iload_n 1, 1) := by decide +kernel
theorem dX3_sortOf_13 : decode cX3_sortOf 13 = .ok (.iaload, 1) := by decide +kernel
theorem dX3_sortOf_14 : decode cX3_sortOf 14 = .ok (.goto 4, 3) := by decide +kernel
theorem dX3_sortOf_17 : decode cX3_sortOf 17 = .ok (.iconst (-1), 1) := by decide +kernel
theorem dX3_sortOf_18 : decode cX3_sortOf 18 = .ok (.ireturn, 1) := by decide +kernel
theorem dX3_lengthOf_0 : decode cX3_lengthOf 0 = .ok (.aload_n 0, 1) := by decide +kernel
theorem dX3_lengthOf_1 : decode cX3_lengthOf 1 = .ok (.iload_n 1, 1) := by decide +kernel
theorem dX3_lengthOf_2 : decode cX3_lengthOf 2 = .ok (.invokevirtual 31, 3) := by decide +kernel
theorem dX3_lengthOf_5 : decode cX3_lengthOf 5 = .ok (.ifCond .eq 12, 3) := by decide +kernel
theorem dX3_lengthOf_8 : decode cX3_lengthOf 8 = .ok (.aload_n 0, 1) := by decide +kernel
theorem dX3_lengthOf_9 : decode cX3_lengthOf 9 = .ok (.getfield 15, 3) := by decide +kernel
theorem dX3_lengthOf_12 : decode cX3_lengthOf 12 = .ok (.iload_n 1, 1) := by decide +kernel
theorem dX3_lengthOf_13 : decode cX3_lengthOf 13 = .ok (.iaload, 1) := by decide +kernel
theorem dX3_lengthOf_14 : decode cX3_lengthOf 14 = .ok (.goto 4, 3) := by decide +kernel
theorem dX3_lengthOf_17 : decode cX3_lengthOf 17 = .ok (.iconst 0, 1) := by decide +kernel
theorem dX3_lengthOf_18 : decode cX3_lengthOf 18 = .ok (.ireturn, 1) := by decide +kernel
theorem dX3_renew_0 : decode cX3_renew 0 = .ok (.aload_n 0, 1) := by decide +kernel
theorem dX3_renew_1 : decode cX3_renew 1 = .ok (.iload_n 1, 1) := by decide +kernel
theorem dX3_renew_2 : decode cX3_renew 2 = .ok (.invokevirtual 31, 3) := by decide +kernel
theorem dX3_renew_5 : decode cX3_renew 5 = .ok (.ifCond .eq 45, 3) := by decide +kernel
theorem dX3_renew_8 : decode cX3_renew 8 = .ok (.iload_n 3, 1) := by decide +kernel
theorem dX3_renew_9 : decode cX3_renew 9 = .ok (.ifCond .lt 41, 3) := by decide +kernel
theorem dX3_renew_12 : decode cX3_renew 12 = .ok (.iload_n 3, 1) := by decide +kernel
theorem dX3_renew_13 : decode cX3_renew 13 = .ok (.bipush 80, 2) := by decide +kernel
theorem dX3_renew_15 : decode cX3_renew 15 = .ok (.if_icmp .gt 35, 3) := by decide +kernel
theorem dX3_renew_18 : decode cX3_renew 18 = .ok (.aload_n 0, 1) := by decide +kernel
theorem dX3_renew_19 : decode cX3_renew 19 = .ok (.getfield 11, 3) := by decide +kernel
theorem dX3_renew_22 : decode cX3_renew 22 = .ok (.iload_n 1, 1) := by decide +kernel
theorem dX3_renew_23 : decode cX3_renew 23 = .ok (.iload_n 2, 1) := by decide +kernel
theorem dX3_renew_24 : decode cX3_renew 24 = .ok (.iastore, 1) := by decide +kernel
theorem dX3_renew_25 : decode cX3_renew 25 = .ok (.aload_n 0, 1) := by decide +kernel
theorem dX3_renew_26 : decode cX3_renew 26 = .ok (.getfield 15, 3) := by decide +kernel
theorem dX3_renew_29 : decode cX3_renew 29 = .ok (.iload_n 1, 1) := by decide +kernel
theorem dX3_renew_30 : decode cX3_renew 30 = .ok (.iload_n 3, 1) := by decide +kernel
theorem dX3_renew_31 : decode cX3_renew 31 = .ok (.iastore, 1) := by decide +kernel
theorem dX3_renew_32 : decode cX3_renew 32 = .ok (.aload_n 0, 1) := by decide +kernel
theorem dX3_renew_33 : decode cX3_renew 33 = .ok (.getfield 18, 3) := by decide +kernel
theorem dX3_renew_36 : decode cX3_renew 36 = .ok (.iload_n 1, 1) := by decide +kernel
theorem dX3_renew_37 : decode cX3_renew 37 = .ok (.bipush 80, 2) := by decide +kernel
theorem dX3_renew_39 : decode cX3_renew 39 = .ok (.imul, 1) := by decide +kernel
theorem dX3_renew_40 : decode cX3_renew 40 = .ok (.iload_n 1, 1) := by decide +kernel
theorem dX3_renew_41 : decode cX3_renew 41 = .ok (.bipush 80, 2) := by decide +kernel
theorem dX3_renew_43 : decode cX3_renew 43 = .ok (.imul, 1) := by decide +kernel
theorem dX3_renew_44 : decode cX3_renew 44 = .ok (.iload_n 3, 1) := by decide +kernel
theorem dX3_renew_45 : decode cX3_renew 45 = .ok (.iadd, 1) := by decide +kernel
theorem dX3_renew_46 : decode cX3_renew 46 = .ok (.iconst 0, 1) := by decide +kernel
theorem dX3_renew_47 : decode cX3_renew 47 = .ok (.invokestatic 35, 3) := by decide +kernel
theorem dX3_renew_50 : decode cX3_renew 50 = .ok (.return_, 1) := by decide +kernel
theorem dX3_hasCells_0 : decode cX3_hasCells 0 = .ok (.iload_n 2, 1) := by decide +kernel
theorem dX3_hasCells_1 : decode cX3_hasCells 1 = .ok (.ifCond .lt 31, 3) := by decide +kernel
theorem dX3_hasCells_4 : decode cX3_hasCells 4 = .ok (.iload_n 2, 1) := by decide +kernel
theorem dX3_hasCells_5 : decode cX3_hasCells 5 = .ok (.aload_n 0, 1) := by decide +kernel
theorem dX3_hasCells_6 : decode cX3_hasCells 6 = .ok (.iload_n 1, 1) := by decide +kernel
theorem dX3_hasCells_7 : decode cX3_hasCells 7 = .ok (.invokevirtual 38, 3) := by decide +kernel
theorem dX3_hasCells_10 : decode cX3_hasCells 10 = .ok (.if_icmp .gt 22, 3) := by decide +kernel
theorem dX3_hasCells_13 : decode cX3_hasCells 13 = .ok (.iload_n 3, 1) := by decide +kernel
theorem dX3_hasCells_14 : decode cX3_hasCells 14 = .ok (.ifCond .lt 18, 3) := by decide +kernel
theorem dX3_hasCells_17 : decode cX3_hasCells 17 = .ok (.iload_n 3, 1) := by decide +kernel
theorem dX3_hasCells_18 : decode cX3_hasCells 18 = .ok (.aload_n 0, 1) := by decide +kernel
theorem dX3_hasCells_19 : decode cX3_hasCells 19 = .ok (.iload_n 1, 1) := by decide +kernel
theorem dX3_hasCells_20 : decode cX3_hasCells 20 = .ok (.invokevirtual 38, 3) := by decide +kernel
theorem dX3_hasCells_23 : decode cX3_hasCells 23 = .ok (.iload_n 2, 1) := by decide +kernel
theorem dX3_hasCells_24 : decode cX3_hasCells 24 = .ok (.isub, 1) := by decide +kernel
theorem dX3_hasCells_25 : decode cX3_hasCells 25 = .ok (.if_icmp .gt 7, 3) := by decide +kernel
theorem dX3_hasCells_28 : decode cX3_hasCells 28 = .ok (.iconst 1, 1) := by decide +kernel
theorem dX3_hasCells_29 : decode cX3_hasCells 29 = .ok (.goto 4, 3) := by decide +kernel
theorem dX3_hasCells_32 : decode cX3_hasCells 32 = .ok (.iconst 0, 1) := by decide +kernel
theorem dX3_hasCells_33 : decode cX3_hasCells 33 = .ok (.ireturn, 1) := by decide +kernel
theorem dX3_faultOfCells_0 : decode cX3_faultOfCells 0 = .ok (.aload_n 0, 1) := by decide +kernel
theorem dX3_faultOfCells_1 : decode cX3_faultOfCells 1 = .ok (.iload_n 1, 1) := by decide +kernel
theorem dX3_faultOfCells_2 : decode cX3_faultOfCells 2 = .ok (.invokevirtual 41, 3) := by decide +kernel
theorem dX3_faultOfCells_5 : decode cX3_faultOfCells 5 = .ok (.ifCond .eq 5, 3) := by decide +kernel
theorem dX3_faultOfCells_8 : decode cX3_faultOfCells 8 = .ok (.iconst 1, 1) := by decide +kernel
theorem dX3_faultOfCells_9 : decode cX3_faultOfCells 9 = .ok (.ireturn, 1) := by decide +kernel
theorem dX3_faultOfCells_10 : decode cX3_faultOfCells 10 = .ok (.aload_n 0, 1) := by decide +kernel
theorem dX3_faultOfCells_11 : decode cX3_faultOfCells 11 = .ok (.iload_n 1, 1) := by decide +kernel
theorem dX3_faultOfCells_12 : decode cX3_faultOfCells 12 = .ok (.invokevirtual 27, 3) := by decide +kernel
theorem dX3_faultOfCells_15 : decode cX3_faultOfCells 15 = .ok (.iload_n 2, 1) := by decide +kernel
theorem dX3_faultOfCells_16 : decode cX3_faultOfCells 16 = .ok (.if_icmp .eq 5, 3) := by decide +kernel
theorem dX3_faultOfCells_19 : decode cX3_faultOfCells 19 = .ok (.iconst 2, 1) := by decide +kernel
theorem dX3_faultOfCells_20 : decode cX3_faultOfCells 20 = .ok (.ireturn, 1) := by decide +kernel
theorem dX3_faultOfCells_21 : decode cX3_faultOfCells 21 = .ok (.iload 4, 2) := by decide +kernel
theorem dX3_faultOfCells_23 : decode cX3_faultOfCells 23 = .ok (.ifCond .ge 5, 3) := by decide +kernel
theorem dX3_faultOfCells_26 : decode cX3_faultOfCells 26 = .ok (.iconst 4, 1) := by decide +kernel
theorem dX3_faultOfCells_27 : decode cX3_faultOfCells 27 = .ok (.ireturn, 1) := by decide +kernel
theorem dX3_faultOfCells_28 : decode cX3_faultOfCells 28 = .ok (.aload_n 0, 1) := by decide +kernel
theorem dX3_faultOfCells_29 : decode cX3_faultOfCells 29 = .ok (.iload_n 1, 1) := by decide +kernel
theorem dX3_faultOfCells_30 : decode cX3_faultOfCells 30 = .ok (.iload_n 3, 1) := by decide +kernel
theorem dX3_faultOfCells_31 : decode cX3_faultOfCells 31 = .ok (.iload 4, 2) := by decide +kernel
theorem dX3_faultOfCells_33 : decode cX3_faultOfCells 33 = .ok (.invokevirtual 44, 3) := by decide +kernel
theorem dX3_faultOfCells_36 : decode cX3_faultOfCells 36 = .ok (.ifCond .eq 7, 3) := by decide +kernel
theorem dX3_faultOfCells_39 : decode cX3_faultOfCells 39 = .ok (.iconst 0, 1) := by decide +kernel
theorem dX3_faultOfCells_40 : decode cX3_faultOfCells 40 = .ok (.goto 4, 3) := by decide +kernel
theorem dX3_faultOfCells_43 : decode cX3_faultOfCells 43 = .ok (.iconst 3, 1) := by decide +kernel
theorem dX3_faultOfCells_44 : decode cX3_faultOfCells 44 = .ok (.ireturn, 1) := by decide +kernel
theorem dX3_write_0 : decode cX3_write 0 = .ok (.aload_n 0, 1) := by decide +kernel
theorem dX3_write_1 : decode cX3_write 1 = .ok (.iload_n 1, 1) := by decide +kernel
theorem dX3_write_2 : decode cX3_write 2 = .ok (.iload_n 2, 1) := by decide +kernel
theorem dX3_write_3 : decode cX3_write 3 = .ok (.iconst 1, 1) := by decide +kernel
theorem dX3_write_4 : decode cX3_write 4 = .ok (.invokevirtual 44, 3) := by decide +kernel
theorem dX3_write_7 : decode cX3_write 7 = .ok (.ifCond .eq 24, 3) := by decide +kernel
theorem dX3_write_10 : decode cX3_write 10 = .ok (.aload_n 0, 1) := by decide +kernel
theorem dX3_write_11 : decode cX3_write 11 = .ok (.getfield 18, 3) := by decide +kernel
theorem dX3_write_14 : decode cX3_write 14 = .ok (.iload_n 1, 1) := by decide +kernel
theorem dX3_write_15 : decode cX3_write 15 = .ok (.bipush 80, 2) := by decide +kernel
theorem dX3_write_17 : decode cX3_write 17 = .ok (.imul, 1) := by decide +kernel
theorem dX3_write_18 : decode cX3_write 18 = .ok (.iload_n 2, 1) := by decide +kernel
theorem dX3_write_19 : decode cX3_write 19 = .ok (.iadd, 1) := by decide +kernel
theorem dX3_write_20 : decode cX3_write 20 = .ok (.aload_n 0, 1) := by decide +kernel
theorem dX3_write_21 : decode cX3_write 21 = .ok (.iload_n 3, 1) := by decide +kernel
theorem dX3_write_22 : decode cX3_write 22 = .ok (.aload_n 0, 1) := by decide +kernel
theorem dX3_write_23 : decode cX3_write 23 = .ok (.iload_n 1, 1) := by decide +kernel
theorem dX3_write_24 : decode cX3_write 24 = .ok (.invokevirtual 27, 3) := by decide +kernel
theorem dX3_write_27 : decode cX3_write 27 = .ok (.invokevirtual 48, 3) := by decide +kernel
theorem dX3_write_30 : decode cX3_write 30 = .ok (.iastore, 1) := by decide +kernel
theorem dX3_write_31 : decode cX3_write 31 = .ok (.return_, 1) := by decide +kernel
theorem dX3_cut_0 : decode cX3_cut 0 = .ok (.iload_n 2, 1) := by decide +kernel
theorem dX3_cut_1 : decode cX3_cut 1 = .ok (.lookupswitch 33 #[(0, 27), (1, 30)], 27) := by decide +kernel
theorem dX3_cut_28 : decode cX3_cut 28 = .ok (.iload_n 1, 1) := by decide +kernel
theorem dX3_cut_29 : decode cX3_cut 29 = .ok (.i2b, 1) := by decide +kernel
theorem dX3_cut_30 : decode cX3_cut 30 = .ok (.ireturn, 1) := by decide +kernel
theorem dX3_cut_31 : decode cX3_cut 31 = .ok (.iload_n 1, 1) := by decide +kernel
theorem dX3_cut_32 : decode cX3_cut 32 = .ok (.i2s, 1) := by decide +kernel
theorem dX3_cut_33 : decode cX3_cut 33 = .ok (.ireturn, 1) := by decide +kernel
theorem dX3_cut_34 : decode cX3_cut 34 = .ok (.iload_n 1, 1) := by decide +kernel
theorem dX3_cut_35 : decode cX3_cut 35 = .ok (.ireturn, 1) := by decide +kernel
theorem dX3_readInto_0 : decode cX3_readInto 0 = .ok (.aload_n 0, 1) := by decide +kernel
theorem dX3_readInto_1 : decode cX3_readInto 1 = .ok (.iload_n 2, 1) := by decide +kernel
theorem dX3_readInto_2 : decode cX3_readInto 2 = .ok (.iload_n 3, 1) := by decide +kernel
theorem dX3_readInto_3 : decode cX3_readInto 3 = .ok (.iload 4, 2) := by decide +kernel
theorem dX3_readInto_5 : decode cX3_readInto 5 = .ok (.invokevirtual 44, 3) := by decide +kernel
theorem dX3_readInto_8 : decode cX3_readInto 8 = .ok (.ifCond .eq 27, 3) := by decide +kernel
theorem dX3_readInto_11 : decode cX3_readInto 11 = .ok (.iload 4, 2) := by decide +kernel
theorem dX3_readInto_13 : decode cX3_readInto 13 = .ok (.aload_n 1, 1) := by decide +kernel
theorem dX3_readInto_14 : decode cX3_readInto 14 = .ok (.arraylength, 1) := by decide +kernel
theorem dX3_readInto_15 : decode cX3_readInto 15 = .ok (.if_icmp .gt 20, 3) := by decide +kernel
theorem dX3_readInto_18 : decode cX3_readInto 18 = .ok (.aload_n 0, 1) := by decide +kernel
theorem dX3_readInto_19 : decode cX3_readInto 19 = .ok (.getfield 18, 3) := by decide +kernel
theorem dX3_readInto_22 : decode cX3_readInto 22 = .ok (.iload_n 2, 1) := by decide +kernel
theorem dX3_readInto_23 : decode cX3_readInto 23 = .ok (.bipush 80, 2) := by decide +kernel
theorem dX3_readInto_25 : decode cX3_readInto 25 = .ok (.imul, 1) := by decide +kernel
theorem dX3_readInto_26 : decode cX3_readInto 26 = .ok (.iload_n 3, 1) := by decide +kernel
theorem dX3_readInto_27 : decode cX3_readInto 27 = .ok (.iadd, 1) := by decide +kernel
theorem dX3_readInto_28 : decode cX3_readInto 28 = .ok (.aload_n 1, 1) := by decide +kernel
theorem dX3_readInto_29 : decode cX3_readInto 29 = .ok (.iconst 0, 1) := by decide +kernel
theorem dX3_readInto_30 : decode cX3_readInto 30 = .ok (.iload 4, 2) := by decide +kernel
theorem dX3_readInto_32 : decode cX3_readInto 32 = .ok (.invokestatic 52, 3) := by decide +kernel
theorem dX3_readInto_35 : decode cX3_readInto 35 = .ok (.return_, 1) := by decide +kernel
theorem dX4_init_0 : decode cX4_init 0 = .ok (.aload_n 0, 1) := by decide +kernel
theorem dX4_init_1 : decode cX4_init 1 = .ok (.invokespecial 1, 3) := by decide +kernel
theorem dX4_init_4 : decode cX4_init 4 = .ok (.aload_n 0, 1) := by decide +kernel
theorem dX4_init_5 : decode cX4_init 5 = .ok (.new 7, 3) := by decide +kernel
theorem dX4_init_8 : decode cX4_init 8 = .ok (.dup, 1) := by decide +kernel
theorem dX4_init_9 : decode cX4_init 9 = .ok (.invokespecial 9, 3) := by decide +kernel
theorem dX4_init_12 : decode cX4_init 12 = .ok (.putfield 10, 3) := by decide +kernel
theorem dX4_init_15 : decode cX4_init 15 = .ok (.return_, 1) := by decide +kernel
theorem dX4_firstFault_0 : decode cX4_firstFault 0 = .ok (.iload_n 2, 1) := by decide +kernel
theorem dX4_firstFault_1 : decode cX4_firstFault 1 = .ok (.aload_n 1, 1) := by decide +kernel
theorem dX4_firstFault_2 : decode cX4_firstFault 2 = .ok (.arraylength, 1) := by decide +kernel
theorem dX4_firstFault_3 : decode cX4_firstFault 3 = .ok (.invokestatic 16, 3) := by decide +kernel
theorem dX4_firstFault_6 : decode cX4_firstFault 6 = .ok (.istore_n 3, 1) := by decide +kernel
theorem dX4_firstFault_7 : decode cX4_firstFault 7 = .ok (.aload_n 0, 1) := by decide +kernel
theorem dX4_firstFault_8 : decode cX4_firstFault 8 = .ok (.getfield 10, 3) := by decide +kernel
theorem dX4_firstFault_11 : decode cX4_firstFault 11 = .ok (.invokevirtual 22, 3) := by decide +kernel
theorem dX4_firstFault_14 : decode cX4_firstFault 14 = .ok (.iload_n 3, 1) := by decide +kernel
theorem dX4_firstFault_15 : decode cX4_firstFault 15 = .ok (.iconst 1, 1) := by decide +kernel
theorem dX4_firstFault_16 : decode cX4_firstFault 16 = .ok (.if_icmp .lt 11, 3) := by decide +kernel
theorem dX4_firstFault_19 : decode cX4_firstFault 19 = .ok (.aload_n 1, 1) := by decide +kernel
theorem dX4_firstFault_20 : decode cX4_firstFault 20 = .ok (.iconst 0, 1) := by decide +kernel
theorem dX4_firstFault_21 : decode cX4_firstFault 21 = .ok (.iaload, 1) := by decide +kernel
theorem dX4_firstFault_22 : decode cX4_firstFault 22 = .ok (.bipush 108, 2) := by decide +kernel
theorem dX4_firstFault_24 : decode cX4_firstFault 24 = .ok (.if_icmp .eq 5, 3) := by decide +kernel
theorem dX4_firstFault_27 : decode cX4_firstFault 27 = .ok (.iconst 0, 1) := by decide +kernel
theorem dX4_firstFault_28 : decode cX4_firstFault 28 = .ok (.ireturn, 1) := by decide +kernel
theorem dX4_firstFault_29 : decode cX4_firstFault 29 = .ok (.iload_n 3, 1) := by decide +kernel
theorem dX4_firstFault_30 : decode cX4_firstFault 30 = .ok (.iconst 2, 1) := by decide +kernel
theorem dX4_firstFault_31 : decode cX4_firstFault 31 = .ok (.if_icmp .lt 19, 3) := by decide +kernel
theorem dX4_firstFault_34 : decode cX4_firstFault 34 = .ok (.aload_n 1, 1) := by decide +kernel
theorem dX4_firstFault_35 : decode cX4_firstFault 35 = .ok (.iconst 1, 1) := by decide +kernel
theorem dX4_firstFault_36 : decode cX4_firstFault 36 = .ok (.iaload, 1) := by decide +kernel
theorem dX4_firstFault_37 : decode cX4_firstFault 37 = .ok (.bipush 50, 2) := by decide +kernel
theorem dX4_firstFault_39 : decode cX4_firstFault 39 = .ok (.if_icmp .lt 11, 3) := by decide +kernel
theorem dX4_firstFault_42 : decode cX4_firstFault 42 = .ok (.aload_n 1, 1) := by decide +kernel
theorem dX4_firstFault_43 : decode cX4_firstFault 43 = .ok (.iconst 1, 1) := by decide +kernel
theorem dX4_firstFault_44 : decode cX4_firstFault 44 = .ok (.iaload, 1) := by decide +kernel
theorem dX4_firstFault_45 : decode cX4_firstFault 45 = .ok (.bipush 55, 2) := by decide +kernel
theorem dX4_firstFault_47 : decode cX4_firstFault 47 = .ok (.if_icmp .le 5, 3) := by decide +kernel
theorem dX4_firstFault_50 : decode cX4_firstFault 50 = .ok (.iconst 1, 1) := by decide +kernel
theorem dX4_firstFault_51 : decode cX4_firstFault 51 = .ok (.ireturn, 1) := by decide +kernel
theorem dX4_firstFault_52 : decode cX4_firstFault 52 = .ok (.iconst 2, 1) := by decide +kernel
theorem dX4_firstFault_53 : decode cX4_firstFault 53 = .ok (.aload_n 1, 1) := by decide +kernel
theorem dX4_firstFault_54 : decode cX4_firstFault 54 = .ok (.iconst 1, 1) := by decide +kernel
theorem dX4_firstFault_55 : decode cX4_firstFault 55 = .ok (.iaload, 1) := by decide +kernel
theorem dX4_firstFault_56 : decode cX4_firstFault 56 = .ok (.iadd, 1) := by decide +kernel
theorem dX4_firstFault_57 : decode cX4_firstFault 57 = .ok (.bipush 48, 2) := by decide +kernel
theorem dX4_firstFault_59 : decode cX4_firstFault 59 = .ok (.isub, 1) := by decide +kernel
theorem dX4_firstFault_60 : decode cX4_firstFault 60 = .ok (.istore 4, 2) := by decide +kernel
theorem dX4_firstFault_62 : decode cX4_firstFault 62 = .ok (.iconst 2, 1) := by decide +kernel
theorem dX4_firstFault_63 : decode cX4_firstFault 63 = .ok (.istore 5, 2) := by decide +kernel
theorem dX4_firstFault_65 : decode cX4_firstFault 65 = .ok (.iload 5, 2) := by decide +kernel
theorem dX4_firstFault_67 : decode cX4_firstFault 67 = .ok (.iload 4, 2) := by decide +kernel
theorem dX4_firstFault_69 : decode cX4_firstFault 69 = .ok (.if_icmp .ge 50, 3) := by decide +kernel
theorem dX4_firstFault_72 : decode cX4_firstFault 72 = .ok (.iload 5, 2) := by decide +kernel
theorem dX4_firstFault_74 : decode cX4_firstFault 74 = .ok (.iload_n 3, 1) := by decide +kernel
theorem dX4_firstFault_75 : decode cX4_firstFault 75 = .ok (.if_icmp .ge 21, 3) := by decide +kernel
theorem dX4_firstFault_78 : decode cX4_firstFault 78 = .ok (.aload_n 1, 1) := by decide +kernel
theorem dX4_firstFault_79 : decode cX4_firstFault 79 = .ok (.iload 5, 2) := by decide +kernel
theorem dX4_firstFault_81 : decode cX4_firstFault 81 = .ok (.iaload, 1) := by decide +kernel
theorem dX4_firstFault_82 : decode cX4_firstFault 82 = .ok (.bipush 49, 2) := by decide +kernel
theorem dX4_firstFault_84 : decode cX4_firstFault 84 = .ok (.if_icmp .lt 12, 3) := by decide +kernel
theorem dX4_firstFault_87 : decode cX4_firstFault 87 = .ok (.aload_n 1, 1) := by decide +kernel
theorem dX4_firstFault_88 : decode cX4_firstFault 88 = .ok (.iload 5, 2) := by decide +kernel
theorem dX4_firstFault_90 : decode cX4_firstFault 90 = .ok (.iaload, 1) := by decide +kernel
theorem dX4_firstFault_91 : decode cX4_firstFault 91 = .ok (.bipush 57, 2) := by decide +kernel
theorem dX4_firstFault_93 : decode cX4_firstFault 93 = .ok (.if_icmp .le 6, 3) := by decide +kernel
theorem dX4_firstFault_96 : decode cX4_firstFault 96 = .ok (.iload 5, 2) := by decide +kernel
theorem dX4_firstFault_98 : decode cX4_firstFault 98 = .ok (.ireturn, 1) := by decide +kernel
theorem dX4_firstFault_99 : decode cX4_firstFault 99 = .ok (.aload_n 0, 1) := by decide +kernel
theorem dX4_firstFault_100 : decode cX4_firstFault 100 = .ok (.getfield 10, 3) := by decide +kernel
theorem dX4_firstFault_103 : decode cX4_firstFault 103 = .ok (.aload_n 1, 1) := by decide +kernel
theorem dX4_firstFault_104 : decode cX4_firstFault 104 = .ok (.iload 5, 2) := by decide +kernel
theorem dX4_firstFault_106 : decode cX4_firstFault 106 = .ok (.iaload, 1) := by decide +kernel
theorem dX4_firstFault_107 : decode cX4_firstFault 107 = .ok (.bipush 48, 2) := by decide +kernel
theorem dX4_firstFault_109 : decode cX4_firstFault 109 = .ok (.isub, 1) := by decide +kernel
theorem dX4_firstFault_110 : decode cX4_firstFault 110 = .ok (.invokevirtual 25, 3) := by decide +kernel
theorem dX4_firstFault_113 : decode cX4_firstFault 113 = .ok (.iinc 5 1, 3) := by decide +kernel
theorem dX4_firstFault_116 : decode cX4_firstFault 116 = .ok (.goto (-51), 3) := by decide +kernel
theorem dX4_firstFault_119 : decode cX4_firstFault 119 = .ok (.aload_n 0, 1) := by decide +kernel
theorem dX4_firstFault_120 : decode cX4_firstFault 120 = .ok (.aload_n 1, 1) := by decide +kernel
theorem dX4_firstFault_121 : decode cX4_firstFault 121 = .ok (.iload 4, 2) := by decide +kernel
theorem dX4_firstFault_123 : decode cX4_firstFault 123 = .ok (.iload_n 3, 1) := by decide +kernel
theorem dX4_firstFault_124 : decode cX4_firstFault 124 = .ok (.invokevirtual 29, 3) := by decide +kernel
theorem dX4_firstFault_127 : decode cX4_firstFault 127 = .ok (.ireturn, 1) := by decide +kernel
theorem dX4_firstFaultOfDoors_0 : decode cX4_firstFaultOfDoors 0 = .ok (.iload_n 2, 1) := by decide +kernel
theorem dX4_firstFaultOfDoors_1 : decode cX4_firstFaultOfDoors 1 = .ok (.istore 4, 2) := by decide +kernel
theorem dX4_firstFaultOfDoors_3 : decode cX4_firstFaultOfDoors 3 = .ok (.iload 4, 2) := by decide +kernel
theorem dX4_firstFaultOfDoors_5 : decode cX4_firstFaultOfDoors 5 = .ok (.iload_n 3, 1) := by decide +kernel
theorem dX4_firstFaultOfDoors_6 : decode cX4_firstFaultOfDoors 6 = .ok (.if_icmp .ge 23, 3) := by decide +kernel
theorem dX4_firstFaultOfDoors_9 : decode cX4_firstFaultOfDoors 9 = .ok (.aload_n 0, 1) := by decide +kernel
theorem dX4_firstFaultOfDoors_10 : decode cX4_firstFaultOfDoors 10 = .ok (.aload_n 1, 1) := by decide +kernel
theorem dX4_firstFaultOfDoors_11 : decode cX4_firstFaultOfDoors 11 = .ok (.iload 4, 2) := by decide +kernel
theorem dX4_firstFaultOfDoors_13 : decode cX4_firstFaultOfDoors 13 = .ok (.iaload, 1) := by decide +kernel
theorem dX4_firstFaultOfDoors_14 : decode cX4_firstFaultOfDoors 14 = .ok (.invokevirtual 33, 3) := by decide +kernel
theorem dX4_firstFaultOfDoors_17 : decode cX4_firstFaultOfDoors 17 = .ok (.ifCond .ne 6, 3) := by decide +kernel
theorem dX4_firstFaultOfDoors_20 : decode cX4_firstFaultOfDoors 20 = .ok (.iload 4, 2) := by decide +kernel
theorem dX4_firstFaultOfDoors_22 : decode cX4_firstFaultOfDoors 22 = .ok (.ireturn, 1) := by decide +kernel
theorem dX4_firstFaultOfDoors_23 : decode cX4_firstFaultOfDoors 23 = .ok (.iinc 4 1, 3) := by decide +kernel
theorem dX4_firstFaultOfDoors_26 : decode cX4_firstFaultOfDoors 26 = .ok (.goto (-23), 3) := by decide +kernel
theorem dX4_firstFaultOfDoors_29 : decode cX4_firstFaultOfDoors 29 = .ok (.aload_n 0, 1) := by decide +kernel
theorem dX4_firstFaultOfDoors_30 : decode cX4_firstFaultOfDoors 30 = .ok (.getfield 10, 3) := by decide +kernel
theorem dX4_firstFaultOfDoors_33 : decode cX4_firstFaultOfDoors 33 = .ok (.getfield 37, 3) := by decide +kernel
theorem dX4_firstFaultOfDoors_36 : decode cX4_firstFaultOfDoors 36 = .ok (.ifCond .le 7, 3) := by decide +kernel
theorem dX4_firstFaultOfDoors_39 : decode cX4_firstFaultOfDoors 39 = .ok (.iconst (-1), 1) := by decide +kernel
theorem dX4_firstFaultOfDoors_40 : decode cX4_firstFaultOfDoors 40 = .ok (.goto 4, 3) := by decide +kernel
theorem dX4_firstFaultOfDoors_43 : decode cX4_firstFaultOfDoors 43 = .ok (.iload_n 3, 1) := by decide +kernel
theorem dX4_firstFaultOfDoors_44 : decode cX4_firstFaultOfDoors 44 = .ok (.ireturn, 1) := by decide +kernel
theorem dX4_goesOn_0 : decode cX4_goesOn 0 = .ok (.iload_n 1, 1) := by decide +kernel
theorem dX4_goesOn_1 : decode cX4_goesOn 1 = .ok (.lookupswitch 43 #[(44, 35), (59, 27)], 27) := by decide +kernel
theorem dX4_goesOn_28 : decode cX4_goesOn 28 = .ok (.aload_n 0, 1) := by decide +kernel
theorem dX4_goesOn_29 : decode cX4_goesOn 29 = .ok (.getfield 10, 3) := by decide +kernel
theorem dX4_goesOn_32 : decode cX4_goesOn 32 = .ok (.invokevirtual 41, 3) := by decide +kernel
theorem dX4_goesOn_35 : decode cX4_goesOn 35 = .ok (.ireturn, 1) := by decide +kernel
theorem dX4_goesOn_36 : decode cX4_goesOn 36 = .ok (.aload_n 0, 1) := by decide +kernel
theorem dX4_goesOn_37 : decode cX4_goesOn 37 = .ok (.getfield 10, 3) := by decide +kernel
theorem dX4_goesOn_40 : decode cX4_goesOn 40 = .ok (.invokevirtual 45, 3) := by decide +kernel
theorem dX4_goesOn_43 : decode cX4_goesOn 43 = .ok (.ireturn, 1) := by decide +kernel
theorem dX4_goesOn_44 : decode cX4_goesOn 44 = .ok (.aload_n 0, 1) := by decide +kernel
theorem dX4_goesOn_45 : decode cX4_goesOn 45 = .ok (.getfield 10, 3) := by decide +kernel
theorem dX4_goesOn_48 : decode cX4_goesOn 48 = .ok (.iload_n 1, 1) := by decide +kernel
theorem dX4_goesOn_49 : decode cX4_goesOn 49 = .ok (.bipush 48, 2) := by decide +kernel
theorem dX4_goesOn_51 : decode cX4_goesOn 51 = .ok (.isub, 1) := by decide +kernel
theorem dX4_goesOn_52 : decode cX4_goesOn 52 = .ok (.invokevirtual 48, 3) := by decide +kernel
theorem dX4_goesOn_55 : decode cX4_goesOn 55 = .ok (.ireturn, 1) := by decide +kernel
theorem dX5_init_0 : decode cX5_init 0 = .ok (.aload_n 0, 1) := by decide +kernel
theorem dX5_init_1 : decode cX5_init 1 = .ok (.invokespecial 3, 3) := by decide +kernel
theorem dX5_init_4 : decode cX5_init 4 = .ok (.aload_n 0, 1) := by decide +kernel
theorem dX5_init_5 : decode cX5_init 5 = .ok (.iconst 4, 1) := by decide +kernel
theorem dX5_init_6 : decode cX5_init 6 = .ok (.newarray .int, 2) := by decide +kernel
theorem dX5_init_8 : decode cX5_init 8 = .ok (.putfield 11, 3) := by decide +kernel
theorem dX5_init_11 : decode cX5_init 11 = .ok (.aload_n 0, 1) := by decide +kernel
theorem dX5_init_12 : decode cX5_init 12 = .ok (.iconst 4, 1) := by decide +kernel
theorem dX5_init_13 : decode cX5_init 13 = .ok (.newarray .int, 2) := by decide +kernel
theorem dX5_init_15 : decode cX5_init 15 = .ok (.putfield 15, 3) := by decide +kernel
theorem dX5_init_18 : decode cX5_init 18 = .ok (.return_, 1) := by decide +kernel
theorem dX5_isFull_0 : decode cX5_isFull 0 = .ok (.aload_n 0, 1) := by decide +kernel
theorem dX5_isFull_1 : decode cX5_isFull 1 = .ok (.getfield 18, 3) := by decide +kernel
theorem dX5_isFull_4 : decode cX5_isFull 4 = .ok (.iconst 4, 1) := by decide +kernel
theorem dX5_isFull_5 : decode cX5_isFull 5 = .ok (.if_icmp .lt 7, 3) := by decide +kernel
theorem dX5_isFull_8 : decode cX5_isFull 8 = .ok (.iconst 1, 1) := by decide +kernel
theorem dX5_isFull_9 : decode cX5_isFull 9 = .ok (.goto 4, 3) := by decide +kernel
theorem dX5_isFull_12 : decode cX5_isFull 12 = .ok (.iconst 0, 1) := by decide +kernel
theorem dX5_isFull_13 : decode cX5_isFull 13 = .ok (.ireturn, 1) := by decide +kernel
theorem dX5_join_0 : decode cX5_join 0 = .ok (.aload_n 0, 1) := by decide +kernel
theorem dX5_join_1 : decode cX5_join 1 = .ok (.invokevirtual 22, 3) := by decide +kernel
theorem dX5_join_4 : decode cX5_join 4 = .ok (.ifCond .eq 6, 3) := by decide +kernel
theorem dX5_join_7 : decode cX5_join 7 = .ok (.bipush (-4), 2) := by decide +kernel
theorem dX5_join_9 : decode cX5_join 9 = .ok (.ireturn, 1) := by decide +kernel
theorem dX5_join_10 : decode cX5_join 10 = .ok (.aload_n 0, 1) := by decide +kernel
theorem dX5_join_11 : decode cX5_join 11 = .ok (.getfield 11, 3) := by decide +kernel
theorem dX5_join_14 : decode cX5_join 14 = .ok (.aload_n 0, 1) := by decide +kernel
theorem dX5_join_15 : decode cX5_join 15 = .ok (.getfield 18, 3) := by decide +kernel
theorem dX5_join_18 : decode cX5_join 18 = .ok (.iload_n 1, 1) := by decide +kernel
theorem dX5_join_19 : decode cX5_join 19 = .ok (.iastore, 1) := by decide +kernel
theorem dX5_join_20 : decode cX5_join 20 = .ok (.aload_n 0, 1) := by decide +kernel
theorem dX5_join_21 : decode cX5_join 21 = .ok (.getfield 15, 3) := by decide +kernel
theorem dX5_join_24 : decode cX5_join 24 = .ok (.aload_n 0, 1) := by decide +kernel
theorem dX5_join_25 : decode cX5_join 25 = .ok (.getfield 18, 3) := by decide +kernel
theorem dX5_join_28 : decode cX5_join 28 = .ok (.iload_n 2, 1) := by decide +kernel
theorem dX5_join_29 : decode cX5_join 29 = .ok (.iastore, 1) := by decide +kernel
theorem dX5_join_30 : decode cX5_join 30 = .ok (.aload_n 0, 1) := by decide +kernel
theorem dX5_join_31 : decode cX5_join 31 = .ok (.dup, 1) := by decide +kernel
theorem dX5_join_32 : decode cX5_join 32 = .ok (.getfield 18, 3) := by decide +kernel
theorem dX5_join_35 : decode cX5_join 35 = .ok (.iconst 1, 1) := by decide +kernel
theorem dX5_join_36 : decode cX5_join 36 = .ok (.iadd, 1) := by decide +kernel
theorem dX5_join_37 : decode cX5_join 37 = .ok (.putfield 18, 3) := by decide +kernel
theorem dX5_join_40 : decode cX5_join 40 = .ok (.aload_n 0, 1) := by decide +kernel
theorem dX5_join_41 : decode cX5_join 41 = .ok (.getfield 18, 3) := by decide +kernel
theorem dX5_join_44 : decode cX5_join 44 = .ok (.iconst 1, 1) := by decide +kernel
theorem dX5_join_45 : decode cX5_join 45 = .ok (.isub, 1) := by decide +kernel
theorem dX5_join_46 : decode cX5_join 46 = .ok (.ireturn, 1) := by decide +kernel
theorem dX5_includes_0 : decode cX5_includes 0 = .ok (.iload_n 1, 1) := by decide +kernel
theorem dX5_includes_1 : decode cX5_includes 1 = .ok (.ifCond .lt 20, 3) := by decide +kernel
theorem dX5_includes_4 : decode cX5_includes 4 = .ok (.iload_n 1, 1) := by decide +kernel
theorem dX5_includes_5 : decode cX5_includes 5 = .ok (.aload_n 0, 1) := by decide +kernel
theorem dX5_includes_6 : decode cX5_includes 6 = .ok (.getfield 18, 3) := by decide +kernel
theorem dX5_includes_9 : decode cX5_includes 9 = .ok (.if_icmp .ge 12, 3) := by decide +kernel
theorem dX5_includes_12 : decode cX5_includes 12 = .ok (.iload_n 1, 1) := by decide +kernel
theorem dX5_includes_13 : decode cX5_includes 13 = .ok (.iconst 4, 1) := by decide +kernel
theorem dX5_includes_14 : decode cX5_includes 14 = .ok (.if_icmp .ge 7, 3) := by decide +kernel
theorem dX5_includes_17 : decode cX5_includes 17 = .ok (.iconst 1, 1) := by decide +kernel
theorem dX5_includes_18 : decode cX5_includes 18 = .ok (.goto 4, 3) := by decide +kernel
theorem dX5_includes_21 : decode cX5_includes 21 = .ok (.iconst 0, 1) := by decide +kernel
theorem dX5_includes_22 : decode cX5_includes 22 = .ok (.ireturn, 1) := by decide +kernel
theorem dX5_kindOf_0 : decode cX5_kindOf 0 = .ok (.aload_n 0, 1) := by decide +kernel
theorem dX5_kindOf_1 : decode cX5_kindOf 1 = .ok (.iload_n 1, 1) := by decide +kernel
theorem dX5_kindOf_2 : decode cX5_kindOf 2 = .ok (.invokevirtual 26, 3) := by decide +kernel
theorem dX5_kindOf_5 : decode cX5_kindOf 5 = .ok (.ifCond .eq 12, 3) := by decide +kernel
theorem dX5_kindOf_8 : decode cX5_kindOf 8 = .ok (.aload_n 0, 1) := by decide +kernel
theorem dX5_kindOf_9 : decode cX5_kindOf 9 = .ok (.getfield 11, 3) := by decide +kernel
theorem dX5_kindOf_12 : decode cX5_kindOf 12 = .ok (.iload_n 1, 1) := by decide +kernel
theorem dX5_kindOf_13 : decode cX5_kindOf 13 = .ok (.iaload, 1) := by decide +kernel
theorem dX5_kindOf_14 : decode cX5_kindOf 14 = .ok (.goto 4, 3) := by decide +kernel
theorem dX5_kindOf_17 : decode cX5_kindOf 17 = .ok (.iconst 0, 1) := by decide +kernel
theorem dX5_kindOf_18 : decode cX5_kindOf 18 = .ok (.ireturn, 1) := by decide +kernel
theorem dX5_weightOf_0 : decode cX5_weightOf 0 = .ok (.aload_n 0, 1) := by decide +kernel
theorem dX5_weightOf_1 : decode cX5_weightOf 1 = .ok (.iload_n 1, 1) := by decide +kernel
theorem dX5_weightOf_2 : decode cX5_weightOf 2 = .ok (.invokevirtual 26, 3) := by decide +kernel
theorem dX5_weightOf_5 : decode cX5_weightOf 5 = .ok (.ifCond .eq 12, 3) := by decide +kernel
theorem dX5_weightOf_8 : decode cX5_weightOf 8 = .ok (.aload_n 0, 1) := by decide +kernel
theorem dX5_weightOf_9 : decode cX5_weightOf 9 = .ok (.getfield 15, 3) := by decide +kernel
theorem dX5_weightOf_12 : decode cX5_weightOf 12 = .ok (.iload_n 1, 1) := by decide +kernel
theorem dX5_weightOf_13 : decode cX5_weightOf 13 = .ok (.iaload, 1) := by decide +kernel
theorem dX5_weightOf_14 : decode cX5_weightOf 14 = .ok (.goto 4, 3) := by decide +kernel
theorem dX5_weightOf_17 : decode cX5_weightOf 17 = .ok (.iconst 0, 1) := by decide +kernel
theorem dX5_weightOf_18 : decode cX5_weightOf 18 = .ok (.ireturn, 1) := by decide +kernel
theorem dX5_pull_0 : decode cX5_pull 0 = .ok (.iload_n 0, 1) := by decide +kernel
theorem dX5_pull_1 : decode cX5_pull 1 = .ok (.iconst 2, 1) := by decide +kernel
theorem dX5_pull_2 : decode cX5_pull 2 = .ok (.if_icmp .ne 9, 3) := by decide +kernel
theorem dX5_pull_5 : decode cX5_pull 5 = .ok (.iload_n 1, 1) := by decide +kernel
theorem dX5_pull_6 : decode cX5_pull 6 = .ok (.iconst 2, 1) := by decide +kernel
theorem dX5_pull_7 : decode cX5_pull 7 = .ok (.idiv, 1) := by decide +kernel
theorem dX5_pull_8 : decode cX5_pull 8 = .ok (.goto 4, 3) := by decide +kernel
theorem dX5_pull_11 : decode cX5_pull 11 = .ok (.iload_n 1, 1) := by decide +kernel
theorem dX5_pull_12 : decode cX5_pull 12 = .ok (.ireturn, 1) := by decide +kernel
theorem dX6_init_0 : decode cX6_init 0 = .ok (.aload_n 0, 1) := by decide +kernel
theorem dX6_init_1 : decode cX6_init 1 = .ok (.invokespecial 3, 3) := by decide +kernel
theorem dX6_init_4 : decode cX6_init 4 = .ok (.aload_n 0, 1) := by decide +kernel
theorem dX6_init_5 : decode cX6_init 5 = .ok (.new 9, 3) := by decide +kernel
theorem dX6_init_8 : decode cX6_init 8 = .ok (.dup, 1) := by decide +kernel
theorem dX6_init_9 : decode cX6_init 9 = .ok (.invokespecial 11, 3) := by decide +kernel
theorem dX6_init_12 : decode cX6_init 12 = .ok (.putfield 12, 3) := by decide +kernel
theorem dX6_init_15 : decode cX6_init 15 = .ok (.aload_n 0, 1) := by decide +kernel
theorem dX6_init_16 : decode cX6_init 16 = .ok (.new 18, 3) := by decide +kernel
theorem dX6_init_19 : decode cX6_init 19 = .ok (.dup, 1) := by decide +kernel
theorem dX6_init_20 : decode cX6_init 20 = .ok (.invokespecial 20, 3) := by decide +kernel
theorem dX6_init_23 : decode cX6_init 23 = .ok (.putfield 21, 3) := by decide +kernel
theorem dX6_init_26 : decode cX6_init 26 = .ok (.aload_n 0, 1) := by decide +kernel
theorem dX6_init_27 : decode cX6_init 27 = .ok (.new 25, 3) := by decide +kernel
theorem dX6_init_30 : decode cX6_init 30 = .ok (.dup, 1) := by decide +kernel
theorem dX6_init_31 : decode cX6_init 31 = .ok (.invokespecial 27, 3) := by decide +kernel
theorem dX6_init_34 : decode cX6_init 34 = .ok (.putfield 28, 3) := by decide +kernel
theorem dX6_init_37 : decode cX6_init 37 = .ok (.aload_n 0, 1) := by decide +kernel
theorem dX6_init_38 : decode cX6_init 38 = .ok (.aload_n 0, 1) := by decide +kernel
theorem dX6_init_39 : decode cX6_init 39 = .ok (.getfield 28, 3) := by decide +kernel
theorem dX6_init_42 : decode cX6_init 42 = .ok (.getfield 32, 3) := by decide +kernel
theorem dX6_init_45 : decode cX6_init 45 = .ok (.putfield 36, 3) := by decide +kernel
theorem dX6_init_48 : decode cX6_init 48 = .ok (.aload_n 0, 1) := by decide +kernel
theorem dX6_init_49 : decode cX6_init 49 = .ok (.aload_n 0, 1) := by decide +kernel
theorem dX6_init_50 : decode cX6_init 50 = .ok (.getfield 28, 3) := by decide +kernel
theorem dX6_init_53 : decode cX6_init 53 = .ok (.getfield 37, 3) := by decide +kernel
theorem dX6_init_56 : decode cX6_init 56 = .ok (.putfield 41, 3) := by decide +kernel
theorem dX6_init_59 : decode cX6_init 59 = .ok (.aload_n 0, 1) := by decide +kernel
theorem dX6_init_60 : decode cX6_init 60 = .ok (.new 42, 3) := by decide +kernel
theorem dX6_init_63 : decode cX6_init 63 = .ok (.dup, 1) := by decide +kernel
theorem dX6_init_64 : decode cX6_init 64 = .ok (.invokespecial 44, 3) := by decide +kernel
theorem dX6_init_67 : decode cX6_init 67 = .ok (.putfield 45, 3) := by decide +kernel
theorem dX6_init_70 : decode cX6_init 70 = .ok (.aload_n 0, 1) := by decide +kernel
theorem dX6_init_71 : decode cX6_init 71 = .ok (.bipush 80, 2) := by decide +kernel
theorem dX6_init_73 : decode cX6_init 73 = .ok (.newarray .int, 2) := by decide +kernel
theorem dX6_init_75 : decode cX6_init 75 = .ok (.putfield 49, 3) := by decide +kernel
theorem dX6_init_78 : decode cX6_init 78 = .ok (.return_, 1) := by decide +kernel
theorem dX6_lock_0 : decode cX6_lock 0 = .ok (.aload_n 0, 1) := by decide +kernel
theorem dX6_lock_1 : decode cX6_lock 1 = .ok (.iload_n 1, 1) := by decide +kernel
theorem dX6_lock_2 : decode cX6_lock 2 = .ok (.iload_n 2, 1) := by decide +kernel
theorem dX6_lock_3 : decode cX6_lock 3 = .ok (.iconst 0, 1) := by decide +kernel
theorem dX6_lock_4 : decode cX6_lock 4 = .ok (.iload_n 3, 1) := by decide +kernel
theorem dX6_lock_5 : decode cX6_lock 5 = .ok (.iload 4, 2) := by decide +kernel
theorem dX6_lock_7 : decode cX6_lock 7 = .ok (.invokevirtual 53, 3) := by decide +kernel
theorem dX6_lock_10 : decode cX6_lock 10 = .ok (.istore 5, 2) := by decide +kernel
theorem dX6_lock_12 : decode cX6_lock 12 = .ok (.iload 5, 2) := by decide +kernel
theorem dX6_lock_14 : decode cX6_lock 14 = .ok (.ifCond .eq 6, 3) := by decide +kernel
theorem dX6_lock_17 : decode cX6_lock 17 = .ok (.iload 5, 2) := by decide +kernel
theorem dX6_lock_19 : decode cX6_lock 19 = .ok (.ireturn, 1) := by decide +kernel
theorem dX6_lock_20 : decode cX6_lock 20 = .ok (.aload_n 0, 1) := by decide +kernel
theorem dX6_lock_21 : decode cX6_lock 21 = .ok (.getfield 21, 3) := by decide +kernel
theorem dX6_lock_24 : decode cX6_lock 24 = .ok (.aload_n 0, 1) := by decide +kernel
theorem dX6_lock_25 : decode cX6_lock 25 = .ok (.getfield 49, 3) := by decide +kernel
theorem dX6_lock_28 : decode cX6_lock 28 = .ok (.iload 4, 2) := by decide +kernel
theorem dX6_lock_30 : decode cX6_lock 30 = .ok (.invokevirtual 57, 3) := by decide +kernel
theorem dX6_lock_33 : decode cX6_lock 33 = .ok (.istore 6, 2) := by decide +kernel
theorem dX6_lock_35 : decode cX6_lock 35 = .ok (.iload 6, 2) := by decide +kernel
theorem dX6_lock_37 : decode cX6_lock 37 = .ok (.iconst (-1), 1) := by decide +kernel
theorem dX6_lock_38 : decode cX6_lock 38 = .ok (.if_icmp .eq 9, 3) := by decide +kernel
theorem dX6_lock_41 : decode cX6_lock 41 = .ok (.bipush (-100), 2) := by decide +kernel
theorem dX6_lock_43 : decode cX6_lock 43 = .ok (.iload 6, 2) := by decide +kernel
theorem dX6_lock_45 : decode cX6_lock 45 = .ok (.isub, 1) := by decide +kernel
theorem dX6_lock_46 : decode cX6_lock 46 = .ok (.ireturn, 1) := by decide +kernel
theorem dX6_lock_47 : decode cX6_lock 47 = .ok (.aload_n 0, 1) := by decide +kernel
theorem dX6_lock_48 : decode cX6_lock 48 = .ok (.getfield 36, 3) := by decide +kernel
theorem dX6_lock_51 : decode cX6_lock 51 = .ok (.aload_n 0, 1) := by decide +kernel
theorem dX6_lock_52 : decode cX6_lock 52 = .ok (.getfield 21, 3) := by decide +kernel
theorem dX6_lock_55 : decode cX6_lock 55 = .ok (.getfield 61, 3) := by decide +kernel
theorem dX6_lock_58 : decode cX6_lock 58 = .ok (.invokevirtual 64, 3) := by decide +kernel
theorem dX6_lock_61 : decode cX6_lock 61 = .ok (.aload_n 0, 1) := by decide +kernel
theorem dX6_lock_62 : decode cX6_lock 62 = .ok (.getfield 41, 3) := by decide +kernel
theorem dX6_lock_65 : decode cX6_lock 65 = .ok (.iconst 0, 1) := by decide +kernel
theorem dX6_lock_66 : decode cX6_lock 66 = .ok (.putfield 70, 3) := by decide +kernel
theorem dX6_lock_69 : decode cX6_lock 69 = .ok (.aload_n 0, 1) := by decide +kernel
theorem dX6_lock_70 : decode cX6_lock 70 = .ok (.getfield 45, 3) := by decide +kernel
theorem dX6_lock_73 : decode cX6_lock 73 = .ok (.iconst 0, 1) := by decide +kernel
theorem dX6_lock_74 : decode cX6_lock 74 = .ok (.putfield 76, 3) := by decide +kernel
theorem dX6_lock_77 : decode cX6_lock 77 = .ok (.aload_n 0, 1) := by decide +kernel
theorem dX6_lock_78 : decode cX6_lock 78 = .ok (.getfield 36, 3) := by decide +kernel
theorem dX6_lock_81 : decode cX6_lock 81 = .ok (.getfield 77, 3) := by decide +kernel
theorem dX6_lock_84 : decode cX6_lock 84 = .ok (.ireturn, 1) := by decide +kernel
theorem dX6_dancer_0 : decode cX6_dancer 0 = .ok (.iload_n 1, 1) := by decide +kernel
theorem dX6_dancer_1 : decode cX6_dancer 1 = .ok (.ifCond .lt 19, 3) := by decide +kernel
theorem dX6_dancer_4 : decode cX6_dancer 4 = .ok (.iload_n 1, 1) := by decide +kernel
theorem dX6_dancer_5 : decode cX6_dancer 5 = .ok (.iconst 3, 1) := by decide +kernel
theorem dX6_dancer_6 : decode cX6_dancer 6 = .ok (.if_icmp .ge 14, 3) := by decide +kernel
theorem dX6_dancer_9 : decode cX6_dancer 9 = .ok (.iload_n 2, 1) := by decide +kernel
theorem dX6_dancer_10 : decode cX6_dancer 10 = .ok (.iconst 1, 1) := by decide +kernel
theorem dX6_dancer_11 : decode cX6_dancer 11 = .ok (.if_icmp .lt 9, 3) := by decide +kernel
theorem dX6_dancer_14 : decode cX6_dancer 14 = .ok (.iload_n 2, 1) := by decide +kernel
theorem dX6_dancer_15 : decode cX6_dancer 15 = .ok (.bipush 9, 2) := by decide +kernel
theorem dX6_dancer_17 : decode cX6_dancer 17 = .ok (.if_icmp .le 6, 3) := by decide +kernel
theorem dX6_dancer_20 : decode cX6_dancer 20 = .ok (.bipush (-2), 2) := by decide +kernel
theorem dX6_dancer_22 : decode cX6_dancer 22 = .ok (.ireturn, 1) := by decide +kernel
theorem dX6_dancer_23 : decode cX6_dancer 23 = .ok (.aload_n 0, 1) := by decide +kernel
theorem dX6_dancer_24 : decode cX6_dancer 24 = .ok (.getfield 36, 3) := by decide +kernel
theorem dX6_dancer_27 : decode cX6_dancer 27 = .ok (.invokevirtual 115, 3) := by decide +kernel
theorem dX6_dancer_30 : decode cX6_dancer 30 = .ok (.ifCond .ne 6, 3) := by decide +kernel
theorem dX6_dancer_33 : decode cX6_dancer 33 = .ok (.bipush (-3), 2) := by decide +kernel
theorem dX6_dancer_35 : decode cX6_dancer 35 = .ok (.ireturn, 1) := by decide +kernel
theorem dX6_dancer_36 : decode cX6_dancer 36 = .ok (.aload_n 0, 1) := by decide +kernel
theorem dX6_dancer_37 : decode cX6_dancer 37 = .ok (.getfield 41, 3) := by decide +kernel
theorem dX6_dancer_40 : decode cX6_dancer 40 = .ok (.invokevirtual 119, 3) := by decide +kernel
theorem dX6_dancer_43 : decode cX6_dancer 43 = .ok (.ifCond .eq 8, 3) := by decide +kernel
theorem dX6_dancer_46 : decode cX6_dancer 46 = .ok (.bipush (-4), 2) := by decide +kernel
theorem dX6_dancer_48 : decode cX6_dancer 48 = .ok (.goto 12, 3) := by decide +kernel
theorem dX6_dancer_51 : decode cX6_dancer 51 = .ok (.aload_n 0, 1) := by decide +kernel
theorem dX6_dancer_52 : decode cX6_dancer 52 = .ok (.getfield 41, 3) := by decide +kernel
theorem dX6_dancer_55 : decode cX6_dancer 55 = .ok (.iload_n 1, 1) := by decide +kernel
theorem dX6_dancer_56 : decode cX6_dancer 56 = .ok (.iload_n 2, 1) := by decide +kernel
theorem dX6_dancer_57 : decode cX6_dancer 57 = .ok (.invokevirtual 122, 3) := by decide +kernel
theorem dX6_dancer_60 : decode cX6_dancer 60 = .ok (.ireturn, 1) := by decide +kernel
theorem dX6_ofDancer_0 : decode cX6_ofDancer 0 = .ok (.aload_n 0, 1) := by decide +kernel
theorem dX6_ofDancer_1 : decode cX6_ofDancer 1 = .ok (.getfield 41, 3) := by decide +kernel
theorem dX6_ofDancer_4 : decode cX6_ofDancer 4 = .ok (.iload_n 1, 1) := by decide +kernel
theorem dX6_ofDancer_5 : decode cX6_ofDancer 5 = .ok (.invokevirtual 125, 3) := by decide +kernel
theorem dX6_ofDancer_8 : decode cX6_ofDancer 8 = .ok (.ifCond .ne 5, 3) := by decide +kernel
theorem dX6_ofDancer_11 : decode cX6_ofDancer 11 = .ok (.iconst (-1), 1) := by decide +kernel
theorem dX6_ofDancer_12 : decode cX6_ofDancer 12 = .ok (.ireturn, 1) := by decide +kernel
theorem dX6_ofDancer_13 : decode cX6_ofDancer 13 = .ok (.iload_n 2, 1) := by decide +kernel
theorem dX6_ofDancer_14 : decode cX6_ofDancer 14 = .ok (.tableswitch 64 0 2 #[26, 35, 44], 26) := by decide +kernel
theorem dX6_ofDancer_40 : decode cX6_ofDancer 40 = .ok (.aload_n 0, 1) := by decide +kernel
theorem dX6_ofDancer_41 : decode cX6_ofDancer 41 = .ok (.getfield 41, 3) := by decide +kernel
theorem dX6_ofDancer_44 : decode cX6_ofDancer 44 = .ok (.iload_n 1, 1) := by decide +kernel
theorem dX6_ofDancer_45 : decode cX6_ofDancer 45 = .ok (.invokevirtual 128, 3) := by decide +kernel
theorem dX6_ofDancer_48 : decode cX6_ofDancer 48 = .ok (.ireturn, 1) := by decide +kernel
theorem dX6_ofDancer_49 : decode cX6_ofDancer 49 = .ok (.aload_n 0, 1) := by decide +kernel
theorem dX6_ofDancer_50 : decode cX6_ofDancer 50 = .ok (.getfield 41, 3) := by decide +kernel
theorem dX6_ofDancer_53 : decode cX6_ofDancer 53 = .ok (.iload_n 1, 1) := by decide +kernel
theorem dX6_ofDancer_54 : decode cX6_ofDancer 54 = .ok (.invokevirtual 131, 3) := by decide +kernel
theorem dX6_ofDancer_57 : decode cX6_ofDancer 57 = .ok (.ireturn, 1) := by decide +kernel
theorem dX6_ofDancer_58 : decode cX6_ofDancer 58 = .ok (.aload_n 0, 1) := by decide +kernel
theorem dX6_ofDancer_59 : decode cX6_ofDancer 59 = .ok (.getfield 41, 3) := by decide +kernel
theorem dX6_ofDancer_62 : decode cX6_ofDancer 62 = .ok (.iload_n 1, 1) := by decide +kernel
theorem dX6_ofDancer_63 : decode cX6_ofDancer 63 = .ok (.invokevirtual 128, 3) := by decide +kernel
theorem dX6_ofDancer_66 : decode cX6_ofDancer 66 = .ok (.aload_n 0, 1) := by decide +kernel
theorem dX6_ofDancer_67 : decode cX6_ofDancer 67 = .ok (.getfield 41, 3) := by decide +kernel
theorem dX6_ofDancer_70 : decode cX6_ofDancer 70 = .ok (.iload_n 1, 1) := by decide +kernel
theorem dX6_ofDancer_71 : decode cX6_ofDancer 71 = .ok (.invokevirtual 131, 3) := by decide +kernel
theorem dX6_ofDancer_74 : decode cX6_ofDancer 74 = .ok (.invokestatic 134, 3) := by decide +kernel
theorem dX6_ofDancer_77 : decode cX6_ofDancer 77 = .ok (.ireturn, 1) := by decide +kernel
theorem dX6_ofDancer_78 : decode cX6_ofDancer 78 = .ok (.bipush (-2), 2) := by decide +kernel
theorem dX6_ofDancer_80 : decode cX6_ofDancer 80 = .ok (.ireturn, 1) := by decide +kernel
theorem dX6_opens_0 : decode cX6_opens 0 = .ok (.aload_n 0, 1) := by decide +kernel
theorem dX6_opens_1 : decode cX6_opens 1 = .ok (.iload_n 1, 1) := by decide +kernel
theorem dX6_opens_2 : decode cX6_opens 2 = .ok (.iload_n 2, 1) := by decide +kernel
theorem dX6_opens_3 : decode cX6_opens 3 = .ok (.iload_n 3, 1) := by decide +kernel
theorem dX6_opens_4 : decode cX6_opens 4 = .ok (.iload_n 1, 1) := by decide +kernel
theorem dX6_opens_5 : decode cX6_opens 5 = .ok (.iconst 1, 1) := by decide +kernel
theorem dX6_opens_6 : decode cX6_opens 6 = .ok (.if_icmp .lt 9, 3) := by decide +kernel
theorem dX6_opens_9 : decode cX6_opens 9 = .ok (.iload_n 1, 1) := by decide +kernel
theorem dX6_opens_10 : decode cX6_opens 10 = .ok (.bipush 6, 2) := by decide +kernel
theorem dX6_opens_12 : decode cX6_opens 12 = .ok (.if_icmp .le 7, 3) := by decide +kernel
theorem dX6_opens_15 : decode cX6_opens 15 = .ok (.iconst 1, 1) := by decide +kernel
theorem dX6_opens_16 : decode cX6_opens 16 = .ok (.goto 4, 3) := by decide +kernel
theorem dX6_opens_19 : decode cX6_opens 19 = .ok (.iconst 0, 1) := by decide +kernel
theorem dX6_opens_20 : decode cX6_opens 20 = .ok (.iload 4, 2) := by decide +kernel
theorem dX6_opens_22 : decode cX6_opens 22 = .ok (.invokevirtual 137, 3) := by decide +kernel
theorem dX6_opens_25 : decode cX6_opens 25 = .ok (.istore 5, 2) := by decide +kernel
theorem dX6_opens_27 : decode cX6_opens 27 = .ok (.iload 5, 2) := by decide +kernel
theorem dX6_opens_29 : decode cX6_opens 29 = .ok (.ifCond .eq 8, 3) := by decide +kernel
theorem dX6_opens_32 : decode cX6_opens 32 = .ok (.iload 5, 2) := by decide +kernel
theorem dX6_opens_34 : decode cX6_opens 34 = .ok (.goto 11, 3) := by decide +kernel
theorem dX6_opens_37 : decode cX6_opens 37 = .ok (.aload_n 0, 1) := by decide +kernel
theorem dX6_opens_38 : decode cX6_opens 38 = .ok (.getfield 28, 3) := by decide +kernel
theorem dX6_opens_41 : decode cX6_opens 41 = .ok (.iload_n 1, 1) := by decide +kernel
theorem dX6_opens_42 : decode cX6_opens 42 = .ok (.invokevirtual 141, 3) := by decide +kernel
theorem dX6_opens_45 : decode cX6_opens 45 = .ok (.ireturn, 1) := by decide +kernel
theorem dX6_felt_0 : decode cX6_felt 0 = .ok (.iload_n 1, 1) := by decide +kernel
theorem dX6_felt_1 : decode cX6_felt 1 = .ok (.iconst 1, 1) := by decide +kernel
theorem dX6_felt_2 : decode cX6_felt 2 = .ok (.if_icmp .lt 18, 3) := by decide +kernel
theorem dX6_felt_5 : decode cX6_felt 5 = .ok (.iload_n 1, 1) := by decide +kernel
theorem dX6_felt_6 : decode cX6_felt 6 = .ok (.bipush 6, 2) := by decide +kernel
theorem dX6_felt_8 : decode cX6_felt 8 = .ok (.if_icmp .gt 12, 3) := by decide +kernel
theorem dX6_felt_11 : decode cX6_felt 11 = .ok (.iload_n 2, 1) := by decide +kernel
theorem dX6_felt_12 : decode cX6_felt 12 = .ok (.ifCond .lt 8, 3) := by decide +kernel
theorem dX6_felt_15 : decode cX6_felt 15 = .ok (.iload_n 2, 1) := by decide +kernel
theorem dX6_felt_16 : decode cX6_felt 16 = .ok (.iload_n 1, 1) := by decide +kernel
theorem dX6_felt_17 : decode cX6_felt 17 = .ok (.if_icmp .lt 7, 3) := by decide +kernel
theorem dX6_felt_20 : decode cX6_felt 20 = .ok (.iconst 1, 1) := by decide +kernel
theorem dX6_felt_21 : decode cX6_felt 21 = .ok (.goto 4, 3) := by decide +kernel
theorem dX6_felt_24 : decode cX6_felt 24 = .ok (.iconst 0, 1) := by decide +kernel
theorem dX6_felt_25 : decode cX6_felt 25 = .ok (.istore 6, 2) := by decide +kernel
theorem dX6_felt_27 : decode cX6_felt 27 = .ok (.aload_n 0, 1) := by decide +kernel
theorem dX6_felt_28 : decode cX6_felt 28 = .ok (.iload_n 1, 1) := by decide +kernel
theorem dX6_felt_29 : decode cX6_felt 29 = .ok (.iload_n 3, 1) := by decide +kernel
theorem dX6_felt_30 : decode cX6_felt 30 = .ok (.iload 4, 2) := by decide +kernel
theorem dX6_felt_32 : decode cX6_felt 32 = .ok (.iload 6, 2) := by decide +kernel
theorem dX6_felt_34 : decode cX6_felt 34 = .ok (.iload 5, 2) := by decide +kernel
theorem dX6_felt_36 : decode cX6_felt 36 = .ok (.invokevirtual 137, 3) := by decide +kernel
theorem dX6_felt_39 : decode cX6_felt 39 = .ok (.istore 7, 2) := by decide +kernel
theorem dX6_felt_41 : decode cX6_felt 41 = .ok (.iload 7, 2) := by decide +kernel
theorem dX6_felt_43 : decode cX6_felt 43 = .ok (.ifCond .eq 8, 3) := by decide +kernel
theorem dX6_felt_46 : decode cX6_felt 46 = .ok (.iload 7, 2) := by decide +kernel
theorem dX6_felt_48 : decode cX6_felt 48 = .ok (.goto 11, 3) := by decide +kernel
theorem dX6_felt_51 : decode cX6_felt 51 = .ok (.aload_n 0, 1) := by decide +kernel
theorem dX6_felt_52 : decode cX6_felt 52 = .ok (.getfield 28, 3) := by decide +kernel
theorem dX6_felt_55 : decode cX6_felt 55 = .ok (.iload_n 2, 1) := by decide +kernel
theorem dX6_felt_56 : decode cX6_felt 56 = .ok (.invokevirtual 144, 3) := by decide +kernel
theorem dX6_felt_59 : decode cX6_felt 59 = .ok (.ireturn, 1) := by decide +kernel
theorem dX6_wrong_0 : decode cX6_wrong 0 = .ok (.aload_n 0, 1) := by decide +kernel
theorem dX6_wrong_1 : decode cX6_wrong 1 = .ok (.iconst 0, 1) := by decide +kernel
theorem dX6_wrong_2 : decode cX6_wrong 2 = .ok (.putfield 147, 3) := by decide +kernel
theorem dX6_wrong_5 : decode cX6_wrong 5 = .ok (.aload_n 0, 1) := by decide +kernel
theorem dX6_wrong_6 : decode cX6_wrong 6 = .ok (.getfield 36, 3) := by decide +kernel
theorem dX6_wrong_9 : decode cX6_wrong 9 = .ok (.iload_n 1, 1) := by decide +kernel
theorem dX6_wrong_10 : decode cX6_wrong 10 = .ok (.invokevirtual 87, 3) := by decide +kernel
theorem dX6_wrong_13 : decode cX6_wrong 13 = .ok (.ifCond .ne 5, 3) := by decide +kernel
theorem dX6_wrong_16 : decode cX6_wrong 16 = .ok (.iconst (-1), 1) := by decide +kernel
theorem dX6_wrong_17 : decode cX6_wrong 17 = .ok (.ireturn, 1) := by decide +kernel
theorem dX6_wrong_18 : decode cX6_wrong 18 = .ok (.aload_n 0, 1) := by decide +kernel
theorem dX6_wrong_19 : decode cX6_wrong 19 = .ok (.aload_n 0, 1) := by decide +kernel
theorem dX6_wrong_20 : decode cX6_wrong 20 = .ok (.getfield 36, 3) := by decide +kernel
theorem dX6_wrong_23 : decode cX6_wrong 23 = .ok (.iload_n 1, 1) := by decide +kernel
theorem dX6_wrong_24 : decode cX6_wrong 24 = .ok (.invokevirtual 90, 3) := by decide +kernel
theorem dX6_wrong_27 : decode cX6_wrong 27 = .ok (.iload_n 2, 1) := by decide +kernel
theorem dX6_wrong_28 : decode cX6_wrong 28 = .ok (.iload_n 3, 1) := by decide +kernel
theorem dX6_wrong_29 : decode cX6_wrong 29 = .ok (.iconst 0, 1) := by decide +kernel
theorem dX6_wrong_30 : decode cX6_wrong 30 = .ok (.iload 4, 2) := by decide +kernel
theorem dX6_wrong_32 : decode cX6_wrong 32 = .ok (.invokevirtual 137, 3) := by decide +kernel
theorem dX6_wrong_35 : decode cX6_wrong 35 = .ok (.istore 5, 2) := by decide +kernel
theorem dX6_wrong_37 : decode cX6_wrong 37 = .ok (.iload 5, 2) := by decide +kernel
theorem dX6_wrong_39 : decode cX6_wrong 39 = .ok (.ifCond .eq 8, 3) := by decide +kernel
theorem dX6_wrong_42 : decode cX6_wrong 42 = .ok (.iload 5, 2) := by decide +kernel
theorem dX6_wrong_44 : decode cX6_wrong 44 = .ok (.goto 11, 3) := by decide +kernel
theorem dX6_wrong_47 : decode cX6_wrong 47 = .ok (.aload_n 0, 1) := by decide +kernel
theorem dX6_wrong_48 : decode cX6_wrong 48 = .ok (.getfield 28, 3) := by decide +kernel
theorem dX6_wrong_51 : decode cX6_wrong 51 = .ok (.iload_n 1, 1) := by decide +kernel
theorem dX6_wrong_52 : decode cX6_wrong 52 = .ok (.invokevirtual 150, 3) := by decide +kernel
theorem dX6_wrong_55 : decode cX6_wrong 55 = .ok (.ireturn, 1) := by decide +kernel
theorem dX6_can_0 : decode cX6_can 0 = .ok (.aload_n 0, 1) := by decide +kernel
theorem dX6_can_1 : decode cX6_can 1 = .ok (.getfield 36, 3) := by decide +kernel
theorem dX6_can_4 : decode cX6_can 4 = .ok (.iload_n 1, 1) := by decide +kernel
theorem dX6_can_5 : decode cX6_can 5 = .ok (.invokevirtual 87, 3) := by decide +kernel
theorem dX6_can_8 : decode cX6_can 8 = .ok (.ifCond .ne 5, 3) := by decide +kernel
theorem dX6_can_11 : decode cX6_can 11 = .ok (.iconst (-1), 1) := by decide +kernel
theorem dX6_can_12 : decode cX6_can 12 = .ok (.ireturn, 1) := by decide +kernel
theorem dX6_can_13 : decode cX6_can 13 = .ok (.aload_n 0, 1) := by decide +kernel
theorem dX6_can_14 : decode cX6_can 14 = .ok (.getfield 28, 3) := by decide +kernel
theorem dX6_can_17 : decode cX6_can 17 = .ok (.iload_n 1, 1) := by decide +kernel
theorem dX6_can_18 : decode cX6_can 18 = .ok (.iconst 0, 1) := by decide +kernel
theorem dX6_can_19 : decode cX6_can 19 = .ok (.invokevirtual 153, 3) := by decide +kernel
theorem dX6_can_22 : decode cX6_can 22 = .ok (.ifCond .eq 7, 3) := by decide +kernel
theorem dX6_can_25 : decode cX6_can 25 = .ok (.iconst 1, 1) := by decide +kernel
theorem dX6_can_26 : decode cX6_can 26 = .ok (.goto 4, 3) := by decide +kernel
theorem dX6_can_29 : decode cX6_can 29 = .ok (.iconst 0, 1) := by decide +kernel
theorem dX6_can_30 : decode cX6_can 30 = .ok (.ireturn, 1) := by decide +kernel
theorem dX6_plan_0 : decode cX6_plan 0 = .ok (.aload_n 0, 1) := by decide +kernel
theorem dX6_plan_1 : decode cX6_plan 1 = .ok (.getfield 36, 3) := by decide +kernel
theorem dX6_plan_4 : decode cX6_plan 4 = .ok (.iload_n 1, 1) := by decide +kernel
theorem dX6_plan_5 : decode cX6_plan 5 = .ok (.iload_n 2, 1) := by decide +kernel
theorem dX6_plan_6 : decode cX6_plan 6 = .ok (.invokevirtual 94, 3) := by decide +kernel
theorem dX6_plan_9 : decode cX6_plan 9 = .ok (.ifCond .eq 14, 3) := by decide +kernel
theorem dX6_plan_12 : decode cX6_plan 12 = .ok (.aload_n 0, 1) := by decide +kernel
theorem dX6_plan_13 : decode cX6_plan 13 = .ok (.getfield 41, 3) := by decide +kernel
theorem dX6_plan_16 : decode cX6_plan 16 = .ok (.iload_n 3, 1) := by decide +kernel
theorem dX6_plan_17 : decode cX6_plan 17 = .ok (.invokevirtual 125, 3) := by decide +kernel
theorem dX6_plan_20 : decode cX6_plan 20 = .ok (.ifCond .ne 5, 3) := by decide +kernel
theorem dX6_plan_23 : decode cX6_plan 23 = .ok (.iconst (-1), 1) := by decide +kernel
theorem dX6_plan_24 : decode cX6_plan 24 = .ok (.ireturn, 1) := by decide +kernel
theorem dX6_plan_25 : decode cX6_plan 25 = .ok (.aload_n 0, 1) := by decide +kernel
theorem dX6_plan_26 : decode cX6_plan 26 = .ok (.getfield 28, 3) := by decide +kernel
theorem dX6_plan_29 : decode cX6_plan 29 = .ok (.iload_n 1, 1) := by decide +kernel
theorem dX6_plan_30 : decode cX6_plan 30 = .ok (.iconst 0, 1) := by decide +kernel
theorem dX6_plan_31 : decode cX6_plan 31 = .ok (.invokevirtual 153, 3) := by decide +kernel
theorem dX6_plan_34 : decode cX6_plan 34 = .ok (.ifCond .eq 15, 3) := by decide +kernel
theorem dX6_plan_37 : decode cX6_plan 37 = .ok (.aload_n 0, 1) := by decide +kernel
theorem dX6_plan_38 : decode cX6_plan 38 = .ok (.getfield 28, 3) := by decide +kernel
theorem dX6_plan_41 : decode cX6_plan 41 = .ok (.iload_n 2, 1) := by decide +kernel
theorem dX6_plan_42 : decode cX6_plan 42 = .ok (.iload_n 3, 1) := by decide +kernel
theorem dX6_plan_43 : decode cX6_plan 43 = .ok (.invokevirtual 157, 3) := by decide +kernel
theorem dX6_plan_46 : decode cX6_plan 46 = .ok (.goto 5, 3) := by decide +kernel
theorem dX6_plan_49 : decode cX6_plan 49 = .ok (.bipush (-9), 2) := by decide +kernel
theorem dX6_plan_51 : decode cX6_plan 51 = .ok (.ireturn, 1) := by decide +kernel
theorem dX6_limped_0 : decode cX6_limped 0 = .ok (.aload_n 0, 1) := by decide +kernel
theorem dX6_limped_1 : decode cX6_limped 1 = .ok (.getfield 36, 3) := by decide +kernel
theorem dX6_limped_4 : decode cX6_limped 4 = .ok (.iload_n 1, 1) := by decide +kernel
theorem dX6_limped_5 : decode cX6_limped 5 = .ok (.invokevirtual 87, 3) := by decide +kernel
theorem dX6_limped_8 : decode cX6_limped 8 = .ok (.ifCond .ne 5, 3) := by decide +kernel
theorem dX6_limped_11 : decode cX6_limped 11 = .ok (.iconst (-1), 1) := by decide +kernel
theorem dX6_limped_12 : decode cX6_limped 12 = .ok (.ireturn, 1) := by decide +kernel
theorem dX6_limped_13 : decode cX6_limped 13 = .ok (.aload_n 0, 1) := by decide +kernel
theorem dX6_limped_14 : decode cX6_limped 14 = .ok (.getfield 28, 3) := by decide +kernel
theorem dX6_limped_17 : decode cX6_limped 17 = .ok (.iload_n 1, 1) := by decide +kernel
theorem dX6_limped_18 : decode cX6_limped 18 = .ok (.iconst 1, 1) := by decide +kernel
theorem dX6_limped_19 : decode cX6_limped 19 = .ok (.invokevirtual 153, 3) := by decide +kernel
theorem dX6_limped_22 : decode cX6_limped 22 = .ok (.ifCond .ne 6, 3) := by decide +kernel
theorem dX6_limped_25 : decode cX6_limped 25 = .ok (.bipush (-3), 2) := by decide +kernel
theorem dX6_limped_27 : decode cX6_limped 27 = .ok (.ireturn, 1) := by decide +kernel
theorem dX6_limped_28 : decode cX6_limped 28 = .ok (.aload_n 0, 1) := by decide +kernel
theorem dX6_limped_29 : decode cX6_limped 29 = .ok (.getfield 28, 3) := by decide +kernel
theorem dX6_limped_32 : decode cX6_limped 32 = .ok (.aload_n 0, 1) := by decide +kernel
theorem dX6_limped_33 : decode cX6_limped 33 = .ok (.getfield 36, 3) := by decide +kernel
theorem dX6_limped_36 : decode cX6_limped 36 = .ok (.iload_n 1, 1) := by decide +kernel
theorem dX6_limped_37 : decode cX6_limped 37 = .ok (.invokevirtual 90, 3) := by decide +kernel
theorem dX6_limped_40 : decode cX6_limped 40 = .ok (.invokevirtual 141, 3) := by decide +kernel
theorem dX6_limped_43 : decode cX6_limped 43 = .ok (.ireturn, 1) := by decide +kernel
theorem dX6_plans_0 : decode cX6_plans 0 = .ok (.aload_n 0, 1) := by decide +kernel
theorem dX6_plans_1 : decode cX6_plans 1 = .ok (.getfield 36, 3) := by decide +kernel
theorem dX6_plans_4 : decode cX6_plans 4 = .ok (.iload_n 1, 1) := by decide +kernel
theorem dX6_plans_5 : decode cX6_plans 5 = .ok (.iload_n 2, 1) := by decide +kernel
theorem dX6_plans_6 : decode cX6_plans 6 = .ok (.invokevirtual 94, 3) := by decide +kernel
theorem dX6_plans_9 : decode cX6_plans 9 = .ok (.ifCond .eq 22, 3) := by decide +kernel
theorem dX6_plans_12 : decode cX6_plans 12 = .ok (.aload_n 0, 1) := by decide +kernel
theorem dX6_plans_13 : decode cX6_plans 13 = .ok (.getfield 28, 3) := by decide +kernel
theorem dX6_plans_16 : decode cX6_plans 16 = .ok (.aload_n 0, 1) := by decide +kernel
theorem dX6_plans_17 : decode cX6_plans 17 = .ok (.getfield 36, 3) := by decide +kernel
theorem dX6_plans_20 : decode cX6_plans 20 = .ok (.iload_n 1, 1) := by decide +kernel
theorem dX6_plans_21 : decode cX6_plans 21 = .ok (.iload_n 2, 1) := by decide +kernel
theorem dX6_plans_22 : decode cX6_plans 22 = .ok (.invokevirtual 98, 3) := by decide +kernel
theorem dX6_plans_25 : decode cX6_plans 25 = .ok (.invokevirtual 211, 3) := by decide +kernel
theorem dX6_plans_28 : decode cX6_plans 28 = .ok (.goto 6, 3) := by decide +kernel
theorem dX6_plans_31 : decode cX6_plans 31 = .ok (.ldc2_w 215, 3) := by decide +kernel
theorem dX6_plans_34 : decode cX6_plans 34 = .ok (.lreturn, 1) := by decide +kernel
theorem dX6_sheet_0 : decode cX6_sheet 0 = .ok (.aload_n 0, 1) := by decide +kernel
theorem dX6_sheet_1 : decode cX6_sheet 1 = .ok (.iconst 0, 1) := by decide +kernel
theorem dX6_sheet_2 : decode cX6_sheet 2 = .ok (.putfield 147, 3) := by decide +kernel
theorem dX6_sheet_5 : decode cX6_sheet 5 = .ok (.aload_n 0, 1) := by decide +kernel
theorem dX6_sheet_6 : decode cX6_sheet 6 = .ok (.getfield 12, 3) := by decide +kernel
theorem dX6_sheet_9 : decode cX6_sheet 9 = .ok (.iload_n 1, 1) := by decide +kernel
theorem dX6_sheet_10 : decode cX6_sheet 10 = .ok (.invokevirtual 217, 3) := by decide +kernel
theorem dX6_sheet_13 : decode cX6_sheet 13 = .ok (.ifCond .ne 5, 3) := by decide +kernel
theorem dX6_sheet_16 : decode cX6_sheet 16 = .ok (.iconst (-1), 1) := by decide +kernel
theorem dX6_sheet_17 : decode cX6_sheet 17 = .ok (.ireturn, 1) := by decide +kernel
theorem dX6_sheet_18 : decode cX6_sheet 18 = .ok (.iload_n 2, 1) := by decide +kernel
theorem dX6_sheet_19 : decode cX6_sheet 19 = .ok (.ifCond .lt 14, 3) := by decide +kernel
theorem dX6_sheet_22 : decode cX6_sheet 22 = .ok (.iload_n 2, 1) := by decide +kernel
theorem dX6_sheet_23 : decode cX6_sheet 23 = .ok (.iconst 3, 1) := by decide +kernel
theorem dX6_sheet_24 : decode cX6_sheet 24 = .ok (.if_icmp .ge 9, 3) := by decide +kernel
theorem dX6_sheet_27 : decode cX6_sheet 27 = .ok (.iload_n 3, 1) := by decide +kernel
theorem dX6_sheet_28 : decode cX6_sheet 28 = .ok (.bipush 80, 2) := by decide +kernel
theorem dX6_sheet_30 : decode cX6_sheet 30 = .ok (.if_icmp .le 6, 3) := by decide +kernel
theorem dX6_sheet_33 : decode cX6_sheet 33 = .ok (.bipush (-2), 2) := by decide +kernel
theorem dX6_sheet_35 : decode cX6_sheet 35 = .ok (.ireturn, 1) := by decide +kernel
theorem dX6_sheet_36 : decode cX6_sheet 36 = .ok (.iload_n 3, 1) := by decide +kernel
theorem dX6_sheet_37 : decode cX6_sheet 37 = .ok (.ifCond .ge 9, 3) := by decide +kernel
theorem dX6_sheet_40 : decode cX6_sheet 40 = .ok (.aload_n 0, 1) := by decide +kernel
theorem dX6_sheet_41 : decode cX6_sheet 41 = .ok (.iconst 4, 1) := by decide +kernel
theorem dX6_sheet_42 : decode cX6_sheet 42 = .ok (.invokevirtual 218, 3) := by decide +kernel
theorem dX6_sheet_45 : decode cX6_sheet 45 = .ok (.ireturn, 1) := by decide +kernel
theorem dX6_sheet_46 : decode cX6_sheet 46 = .ok (.aload_n 0, 1) := by decide +kernel
theorem dX6_sheet_47 : decode cX6_sheet 47 = .ok (.getfield 12, 3) := by decide +kernel
theorem dX6_sheet_50 : decode cX6_sheet 50 = .ok (.iload_n 1, 1) := by decide +kernel
theorem dX6_sheet_51 : decode cX6_sheet 51 = .ok (.iload_n 2, 1) := by decide +kernel
theorem dX6_sheet_52 : decode cX6_sheet 52 = .ok (.iload_n 3, 1) := by decide +kernel
theorem dX6_sheet_53 : decode cX6_sheet 53 = .ok (.invokevirtual 221, 3) := by decide +kernel
theorem dX6_sheet_56 : decode cX6_sheet 56 = .ok (.iconst 1, 1) := by decide +kernel
theorem dX6_sheet_57 : decode cX6_sheet 57 = .ok (.ireturn, 1) := by decide +kernel
theorem dX6_put_0 : decode cX6_put 0 = .ok (.aload_n 0, 1) := by decide +kernel
theorem dX6_put_1 : decode cX6_put 1 = .ok (.iconst 0, 1) := by decide +kernel
theorem dX6_put_2 : decode cX6_put 2 = .ok (.putfield 147, 3) := by decide +kernel
theorem dX6_put_5 : decode cX6_put 5 = .ok (.aload_n 0, 1) := by decide +kernel
theorem dX6_put_6 : decode cX6_put 6 = .ok (.getfield 12, 3) := by decide +kernel
theorem dX6_put_9 : decode cX6_put 9 = .ok (.iload_n 1, 1) := by decide +kernel
theorem dX6_put_10 : decode cX6_put 10 = .ok (.invokevirtual 217, 3) := by decide +kernel
theorem dX6_put_13 : decode cX6_put 13 = .ok (.ifCond .ne 5, 3) := by decide +kernel
theorem dX6_put_16 : decode cX6_put 16 = .ok (.iconst (-1), 1) := by decide +kernel
theorem dX6_put_17 : decode cX6_put 17 = .ok (.ireturn, 1) := by decide +kernel
theorem dX6_put_18 : decode cX6_put 18 = .ok (.aload_n 0, 1) := by decide +kernel
theorem dX6_put_19 : decode cX6_put 19 = .ok (.getfield 12, 3) := by decide +kernel
theorem dX6_put_22 : decode cX6_put 22 = .ok (.iload_n 1, 1) := by decide +kernel
theorem dX6_put_23 : decode cX6_put 23 = .ok (.aload_n 0, 1) := by decide +kernel
theorem dX6_put_24 : decode cX6_put 24 = .ok (.getfield 12, 3) := by decide +kernel
theorem dX6_put_27 : decode cX6_put 27 = .ok (.iload_n 1, 1) := by decide +kernel
theorem dX6_put_28 : decode cX6_put 28 = .ok (.invokevirtual 232, 3) := by decide +kernel
theorem dX6_put_31 : decode cX6_put 31 = .ok (.iload_n 2, 1) := by decide +kernel
theorem dX6_put_32 : decode cX6_put 32 = .ok (.iconst 1, 1) := by decide +kernel
theorem dX6_put_33 : decode cX6_put 33 = .ok (.invokevirtual 235, 3) := by decide +kernel
theorem dX6_put_36 : decode cX6_put 36 = .ok (.istore 4, 2) := by decide +kernel
theorem dX6_put_38 : decode cX6_put 38 = .ok (.iload 4, 2) := by decide +kernel
theorem dX6_put_40 : decode cX6_put 40 = .ok (.ifCond .eq 10, 3) := by decide +kernel
theorem dX6_put_43 : decode cX6_put 43 = .ok (.aload_n 0, 1) := by decide +kernel
theorem dX6_put_44 : decode cX6_put 44 = .ok (.iload 4, 2) := by decide +kernel
theorem dX6_put_46 : decode cX6_put 46 = .ok (.invokevirtual 218, 3) := by decide +kernel
theorem dX6_put_49 : decode cX6_put 49 = .ok (.ireturn, 1) := by decide +kernel
theorem dX6_put_50 : decode cX6_put 50 = .ok (.aload_n 0, 1) := by decide +kernel
theorem dX6_put_51 : decode cX6_put 51 = .ok (.getfield 12, 3) := by decide +kernel
theorem dX6_put_54 : decode cX6_put 54 = .ok (.iload_n 1, 1) := by decide +kernel
theorem dX6_put_55 : decode cX6_put 55 = .ok (.iload_n 2, 1) := by decide +kernel
theorem dX6_put_56 : decode cX6_put 56 = .ok (.iload_n 3, 1) := by decide +kernel
theorem dX6_put_57 : decode cX6_put 57 = .ok (.invokevirtual 239, 3) := by decide +kernel
theorem dX6_put_60 : decode cX6_put 60 = .ok (.iconst 1, 1) := by decide +kernel
theorem dX6_put_61 : decode cX6_put 61 = .ok (.ireturn, 1) := by decide +kernel
theorem dX6_faulted_0 : decode cX6_faulted 0 = .ok (.aload_n 0, 1) := by decide +kernel
theorem dX6_faulted_1 : decode cX6_faulted 1 = .ok (.iload_n 1, 1) := by decide +kernel
theorem dX6_faulted_2 : decode cX6_faulted 2 = .ok (.putfield 147, 3) := by decide +kernel
theorem dX6_faulted_5 : decode cX6_faulted 5 = .ok (.bipush (-10), 2) := by decide +kernel
theorem dX6_faulted_7 : decode cX6_faulted 7 = .ok (.iload_n 1, 1) := by decide +kernel
theorem dX6_faulted_8 : decode cX6_faulted 8 = .ok (.isub, 1) := by decide +kernel
theorem dX6_faulted_9 : decode cX6_faulted 9 = .ok (.ireturn, 1) := by decide +kernel
theorem dX6_takeRow_0 : decode cX6_takeRow 0 = .ok (.aload_n 0, 1) := by decide +kernel
theorem dX6_takeRow_1 : decode cX6_takeRow 1 = .ok (.iconst 0, 1) := by decide +kernel
theorem dX6_takeRow_2 : decode cX6_takeRow 2 = .ok (.putfield 147, 3) := by decide +kernel
theorem dX6_takeRow_5 : decode cX6_takeRow 5 = .ok (.aload_n 0, 1) := by decide +kernel
theorem dX6_takeRow_6 : decode cX6_takeRow 6 = .ok (.getfield 12, 3) := by decide +kernel
theorem dX6_takeRow_9 : decode cX6_takeRow 9 = .ok (.iload_n 1, 1) := by decide +kernel
theorem dX6_takeRow_10 : decode cX6_takeRow 10 = .ok (.invokevirtual 217, 3) := by decide +kernel
theorem dX6_takeRow_13 : decode cX6_takeRow 13 = .ok (.ifCond .ne 5, 3) := by decide +kernel
theorem dX6_takeRow_16 : decode cX6_takeRow 16 = .ok (.iconst (-1), 1) := by decide +kernel
theorem dX6_takeRow_17 : decode cX6_takeRow 17 = .ok (.ireturn, 1) := by decide +kernel
theorem dX6_takeRow_18 : decode cX6_takeRow 18 = .ok (.iload_n 2, 1) := by decide +kernel
theorem dX6_takeRow_19 : decode cX6_takeRow 19 = .ok (.ifCond .lt 12, 3) := by decide +kernel
theorem dX6_takeRow_22 : decode cX6_takeRow 22 = .ok (.iload_n 2, 1) := by decide +kernel
theorem dX6_takeRow_23 : decode cX6_takeRow 23 = .ok (.iconst 3, 1) := by decide +kernel
theorem dX6_takeRow_24 : decode cX6_takeRow 24 = .ok (.if_icmp .ge 7, 3) := by decide +kernel
theorem dX6_takeRow_27 : decode cX6_takeRow 27 = .ok (.iload_n 3, 1) := by decide +kernel
theorem dX6_takeRow_28 : decode cX6_takeRow 28 = .ok (.ifCond .eq 6, 3) := by decide +kernel
theorem dX6_takeRow_31 : decode cX6_takeRow 31 = .ok (.bipush (-2), 2) := by decide +kernel
theorem dX6_takeRow_33 : decode cX6_takeRow 33 = .ok (.ireturn, 1) := by decide +kernel
theorem dX6_takeRow_34 : decode cX6_takeRow 34 = .ok (.aload_n 0, 1) := by decide +kernel
theorem dX6_takeRow_35 : decode cX6_takeRow 35 = .ok (.getfield 12, 3) := by decide +kernel
theorem dX6_takeRow_38 : decode cX6_takeRow 38 = .ok (.iload_n 1, 1) := by decide +kernel
theorem dX6_takeRow_39 : decode cX6_takeRow 39 = .ok (.iload_n 2, 1) := by decide +kernel
theorem dX6_takeRow_40 : decode cX6_takeRow 40 = .ok (.iload 4, 2) := by decide +kernel
theorem dX6_takeRow_42 : decode cX6_takeRow 42 = .ok (.iload 5, 2) := by decide +kernel
theorem dX6_takeRow_44 : decode cX6_takeRow 44 = .ok (.invokevirtual 235, 3) := by decide +kernel
theorem dX6_takeRow_47 : decode cX6_takeRow 47 = .ok (.istore 6, 2) := by decide +kernel
theorem dX6_takeRow_49 : decode cX6_takeRow 49 = .ok (.iload 6, 2) := by decide +kernel
theorem dX6_takeRow_51 : decode cX6_takeRow 51 = .ok (.ifCond .eq 10, 3) := by decide +kernel
theorem dX6_takeRow_54 : decode cX6_takeRow 54 = .ok (.aload_n 0, 1) := by decide +kernel
theorem dX6_takeRow_55 : decode cX6_takeRow 55 = .ok (.iload 6, 2) := by decide +kernel
theorem dX6_takeRow_57 : decode cX6_takeRow 57 = .ok (.invokevirtual 218, 3) := by decide +kernel
theorem dX6_takeRow_60 : decode cX6_takeRow 60 = .ok (.ireturn, 1) := by decide +kernel
theorem dX6_takeRow_61 : decode cX6_takeRow 61 = .ok (.aload_n 0, 1) := by decide +kernel
theorem dX6_takeRow_62 : decode cX6_takeRow 62 = .ok (.getfield 12, 3) := by decide +kernel
theorem dX6_takeRow_65 : decode cX6_takeRow 65 = .ok (.aload_n 0, 1) := by decide +kernel
theorem dX6_takeRow_66 : decode cX6_takeRow 66 = .ok (.getfield 49, 3) := by decide +kernel
theorem dX6_takeRow_69 : decode cX6_takeRow 69 = .ok (.iload_n 1, 1) := by decide +kernel
theorem dX6_takeRow_70 : decode cX6_takeRow 70 = .ok (.iload 4, 2) := by decide +kernel
theorem dX6_takeRow_72 : decode cX6_takeRow 72 = .ok (.iload 5, 2) := by decide +kernel
theorem dX6_takeRow_74 : decode cX6_takeRow 74 = .ok (.invokevirtual 271, 3) := by decide +kernel
theorem dX6_takeRow_77 : decode cX6_takeRow 77 = .ok (.iconst 0, 1) := by decide +kernel
theorem dX6_takeRow_78 : decode cX6_takeRow 78 = .ok (.ireturn, 1) := by decide +kernel
theorem dX6_takePlan_0 : decode cX6_takePlan 0 = .ok (.aload_n 0, 1) := by decide +kernel
theorem dX6_takePlan_1 : decode cX6_takePlan 1 = .ok (.iload_n 2, 1) := by decide +kernel
theorem dX6_takePlan_2 : decode cX6_takePlan 2 = .ok (.iload_n 3, 1) := by decide +kernel
theorem dX6_takePlan_3 : decode cX6_takePlan 3 = .ok (.iload 4, 2) := by decide +kernel
theorem dX6_takePlan_5 : decode cX6_takePlan 5 = .ok (.iload 5, 2) := by decide +kernel
theorem dX6_takePlan_7 : decode cX6_takePlan 7 = .ok (.iload_n 1, 1) := by decide +kernel
theorem dX6_takePlan_8 : decode cX6_takePlan 8 = .ok (.aload_n 0, 1) := by decide +kernel
theorem dX6_takePlan_9 : decode cX6_takePlan 9 = .ok (.getfield 41, 3) := by decide +kernel
theorem dX6_takePlan_12 : decode cX6_takePlan 12 = .ok (.getfield 70, 3) := by decide +kernel
theorem dX6_takePlan_15 : decode cX6_takePlan 15 = .ok (.imul, 1) := by decide +kernel
theorem dX6_takePlan_16 : decode cX6_takePlan 16 = .ok (.invokevirtual 53, 3) := by decide +kernel
theorem dX6_takePlan_19 : decode cX6_takePlan 19 = .ok (.istore 6, 2) := by decide +kernel
theorem dX6_takePlan_21 : decode cX6_takePlan 21 = .ok (.iload 6, 2) := by decide +kernel
theorem dX6_takePlan_23 : decode cX6_takePlan 23 = .ok (.ifCond .eq 6, 3) := by decide +kernel
theorem dX6_takePlan_26 : decode cX6_takePlan 26 = .ok (.iload 6, 2) := by decide +kernel
theorem dX6_takePlan_28 : decode cX6_takePlan 28 = .ok (.ireturn, 1) := by decide +kernel
theorem dX6_takePlan_29 : decode cX6_takePlan 29 = .ok (.aload_n 0, 1) := by decide +kernel
theorem dX6_takePlan_30 : decode cX6_takePlan 30 = .ok (.getfield 36, 3) := by decide +kernel
theorem dX6_takePlan_33 : decode cX6_takePlan 33 = .ok (.invokevirtual 115, 3) := by decide +kernel
theorem dX6_takePlan_36 : decode cX6_takePlan 36 = .ok (.ifCond .ne 6, 3) := by decide +kernel
theorem dX6_takePlan_39 : decode cX6_takePlan 39 = .ok (.bipush (-3), 2) := by decide +kernel
theorem dX6_takePlan_41 : decode cX6_takePlan 41 = .ok (.ireturn, 1) := by decide +kernel
theorem dX6_takePlan_42 : decode cX6_takePlan 42 = .ok (.aload_n 0, 1) := by decide +kernel
theorem dX6_takePlan_43 : decode cX6_takePlan 43 = .ok (.getfield 28, 3) := by decide +kernel
theorem dX6_takePlan_46 : decode cX6_takePlan 46 = .ok (.aload_n 0, 1) := by decide +kernel
theorem dX6_takePlan_47 : decode cX6_takePlan 47 = .ok (.getfield 49, 3) := by decide +kernel
theorem dX6_takePlan_50 : decode cX6_takePlan 50 = .ok (.iload_n 1, 1) := by decide +kernel
theorem dX6_takePlan_51 : decode cX6_takePlan 51 = .ok (.invokevirtual 275, 3) := by decide +kernel
theorem dX6_takePlan_54 : decode cX6_takePlan 54 = .ok (.ifCond .eq 7, 3) := by decide +kernel
theorem dX6_takePlan_57 : decode cX6_takePlan 57 = .ok (.iconst 0, 1) := by decide +kernel
theorem dX6_takePlan_58 : decode cX6_takePlan 58 = .ok (.goto 4, 3) := by decide +kernel
theorem dX6_takePlan_61 : decode cX6_takePlan 61 = .ok (.iconst (-1), 1) := by decide +kernel
theorem dX6_takePlan_62 : decode cX6_takePlan 62 = .ok (.ireturn, 1) := by decide +kernel
