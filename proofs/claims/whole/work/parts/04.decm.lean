theorem dX7_init_0 : decode cX7_init 0 = .ok (.aload_n 0, 1) := by decide +kernel
theorem dX7_init_1 : decode cX7_init 1 = .ok (.invokespecial 1, 3) := by decide +kernel
theorem dX7_init_4 : decode cX7_init 4 = .ok (.aload_n 0, 1) := by decide +kernel
theorem dX7_init_5 : decode cX7_init 5 = .ok (.iconst 4, 1) := by decide +kernel
theorem dX7_init_6 : decode cX7_init 6 = .ok (.newarray .int, 2) := by decide +kernel
theorem dX7_init_8 : decode cX7_init 8 = .ok (.dup, 1) := by decide +kernel
theorem dX7_init_9 : decode cX7_init 9 = .ok (.iconst 0, 1) := by decide +kernel
theorem dX7_init_10 : decode cX7_init 10 = .ok (.bipush (-9), 2) := by decide +kernel
theorem dX7_init_12 : decode cX7_init 12 = .ok (.iastore, 1) := by decide +kernel
theorem dX7_init_13 : decode cX7_init 13 = .ok (.dup, 1) := by decide +kernel
theorem dX7_init_14 : decode cX7_init 14 = .ok (.iconst 1, 1) := by decide +kernel
theorem dX7_init_15 : decode cX7_init 15 = .ok (.bipush (-9), 2) := by decide +kernel
theorem dX7_init_17 : decode cX7_init 17 = .ok (.iastore, 1) := by decide +kernel
theorem dX7_init_18 : decode cX7_init 18 = .ok (.dup, 1) := by decide +kernel
theorem dX7_init_19 : decode cX7_init 19 = .ok (.iconst 2, 1) := by decide +kernel
theorem dX7_init_20 : decode cX7_init 20 = .ok (.bipush (-9), 2) := by decide +kernel
theorem dX7_init_22 : decode cX7_init 22 = .ok (.iastore, 1) := by decide +kernel
theorem dX7_init_23 : decode cX7_init 23 = .ok (.dup, 1) := by decide +kernel
theorem dX7_init_24 : decode cX7_init 24 = .ok (.iconst 3, 1) := by decide +kernel
theorem dX7_init_25 : decode cX7_init 25 = .ok (.bipush (-9), 2) := by decide +kernel
theorem dX7_init_27 : decode cX7_init 27 = .ok (.iastore, 1) := by decide +kernel
theorem dX7_init_28 : decode cX7_init 28 = .ok (.putfield 9, 3) := by decide +kernel
theorem dX7_init_31 : decode cX7_init 31 = .ok (.aload_n 0, 1) := by decide +kernel
theorem dX7_init_32 : decode cX7_init 32 = .ok (.iconst 4, 1) := by decide +kernel
theorem dX7_init_33 : decode cX7_init 33 = .ok (.newarray .int, 2) := by decide +kernel
theorem dX7_init_35 : decode cX7_init 35 = .ok (.putfield 13, 3) := by decide +kernel
theorem dX7_init_38 : decode cX7_init 38 = .ok (.aload_n 0, 1) := by decide +kernel
theorem dX7_init_39 : decode cX7_init 39 = .ok (.sipush 320, 3) := by decide +kernel
theorem dX7_init_42 : decode cX7_init 42 = .ok (.newarray .int, 2) := by decide +kernel
theorem dX7_init_44 : decode cX7_init 44 = .ok (.putfield 16, 3) := by decide +kernel
theorem dX7_init_47 : decode cX7_init 47 = .ok (.aload_n 0, 1) := by decide +kernel
theorem dX7_init_48 : decode cX7_init 48 = .ok (.bipush 7, 2) := by decide +kernel
theorem dX7_init_50 : decode cX7_init 50 = .ok (.newarray .int, 2) := by decide +kernel
theorem dX7_init_52 : decode cX7_init 52 = .ok (.putfield 19, 3) := by decide +kernel
theorem dX7_init_55 : decode cX7_init 55 = .ok (.aload_n 0, 1) := by decide +kernel
theorem dX7_init_56 : decode cX7_init 56 = .ok (.iconst 4, 1) := by decide +kernel
theorem dX7_init_57 : decode cX7_init 57 = .ok (.newarray .int, 2) := by decide +kernel
theorem dX7_init_59 : decode cX7_init 59 = .ok (.putfield 22, 3) := by decide +kernel
theorem dX7_init_62 : decode cX7_init 62 = .ok (.aload_n 0, 1) := by decide +kernel
theorem dX7_init_63 : decode cX7_init 63 = .ok (.bipush 24, 2) := by decide +kernel
theorem dX7_init_65 : decode cX7_init 65 = .ok (.newarray .int, 2) := by decide +kernel
theorem dX7_init_67 : decode cX7_init 67 = .ok (.putfield 25, 3) := by decide +kernel
theorem dX7_init_70 : decode cX7_init 70 = .ok (.aload_n 0, 1) := by decide +kernel
theorem dX7_init_71 : decode cX7_init 71 = .ok (.bipush 7, 2) := by decide +kernel
theorem dX7_init_73 : decode cX7_init 73 = .ok (.newarray .int, 2) := by decide +kernel
theorem dX7_init_75 : decode cX7_init 75 = .ok (.putfield 28, 3) := by decide +kernel
theorem dX7_init_78 : decode cX7_init 78 = .ok (.aload_n 0, 1) := by decide +kernel
theorem dX7_init_79 : decode cX7_init 79 = .ok (.iconst 4, 1) := by decide +kernel
theorem dX7_init_80 : decode cX7_init 80 = .ok (.newarray .int, 2) := by decide +kernel
theorem dX7_init_82 : decode cX7_init 82 = .ok (.putfield 31, 3) := by decide +kernel
theorem dX7_init_85 : decode cX7_init 85 = .ok (.aload_n 0, 1) := by decide +kernel
theorem dX7_init_86 : decode cX7_init 86 = .ok (.bipush 24, 2) := by decide +kernel
theorem dX7_init_88 : decode cX7_init 88 = .ok (.newarray .int, 2) := by decide +kernel
theorem dX7_init_90 : decode cX7_init 90 = .ok (.putfield 34, 3) := by decide +kernel
theorem dX7_init_93 : decode cX7_init 93 = .ok (.aload_n 0, 1) := by decide +kernel
theorem dX7_init_94 : decode cX7_init 94 = .ok (.iconst 4, 1) := by decide +kernel
theorem dX7_init_95 : decode cX7_init 95 = .ok (.newarray .int, 2) := by decide +kernel
theorem dX7_init_97 : decode cX7_init 97 = .ok (.putfield 37, 3) := by decide +kernel
theorem dX7_init_100 : decode cX7_init 100 = .ok (.aload_n 0, 1) := by decide +kernel
theorem dX7_init_101 : decode cX7_init 101 = .ok (.iconst 4, 1) := by decide +kernel
theorem dX7_init_102 : decode cX7_init 102 = .ok (.newarray .int, 2) := by decide +kernel
theorem dX7_init_104 : decode cX7_init 104 = .ok (.putfield 40, 3) := by decide +kernel
theorem dX7_init_107 : decode cX7_init 107 = .ok (.aload_n 0, 1) := by decide +kernel
theorem dX7_init_108 : decode cX7_init 108 = .ok (.bipush 24, 2) := by decide +kernel
theorem dX7_init_110 : decode cX7_init 110 = .ok (.newarray .int, 2) := by decide +kernel
theorem dX7_init_112 : decode cX7_init 112 = .ok (.putfield 43, 3) := by decide +kernel
theorem dX7_init_115 : decode cX7_init 115 = .ok (.aload_n 0, 1) := by decide +kernel
theorem dX7_init_116 : decode cX7_init 116 = .ok (.sipush 2401, 3) := by decide +kernel
theorem dX7_init_119 : decode cX7_init 119 = .ok (.newarray .boolean, 2) := by decide +kernel
theorem dX7_init_121 : decode cX7_init 121 = .ok (.putfield 46, 3) := by decide +kernel
theorem dX7_init_124 : decode cX7_init 124 = .ok (.aload_n 0, 1) := by decide +kernel
theorem dX7_init_125 : decode cX7_init 125 = .ok (.bipush 6, 2) := by decide +kernel
theorem dX7_init_127 : decode cX7_init 127 = .ok (.newarray .int, 2) := by decide +kernel
theorem dX7_init_129 : decode cX7_init 129 = .ok (.putfield 50, 3) := by decide +kernel
theorem dX7_init_132 : decode cX7_init 132 = .ok (.return_, 1) := by decide +kernel
theorem dX7_fails_0 : decode cX7_fails 0 = .ok (.aload_n 0, 1) := by decide +kernel
theorem dX7_fails_1 : decode cX7_fails 1 = .ok (.iload_n 1, 1) := by decide +kernel
theorem dX7_fails_2 : decode cX7_fails 2 = .ok (.putfield 53, 3) := by decide +kernel
theorem dX7_fails_5 : decode cX7_fails 5 = .ok (.bipush (-10), 2) := by decide +kernel
theorem dX7_fails_7 : decode cX7_fails 7 = .ok (.iload_n 1, 1) := by decide +kernel
theorem dX7_fails_8 : decode cX7_fails 8 = .ok (.isub, 1) := by decide +kernel
theorem dX7_fails_9 : decode cX7_fails 9 = .ok (.ireturn, 1) := by decide +kernel
theorem dX7_lost_0 : decode cX7_lost 0 = .ok (.aload_n 0, 1) := by decide +kernel
theorem dX7_lost_1 : decode cX7_lost 1 = .ok (.iload_n 1, 1) := by decide +kernel
theorem dX7_lost_2 : decode cX7_lost 2 = .ok (.putfield 53, 3) := by decide +kernel
theorem dX7_lost_5 : decode cX7_lost 5 = .ok (.ldc2_w 57, 3) := by decide +kernel
theorem dX7_lost_8 : decode cX7_lost 8 = .ok (.lreturn, 1) := by decide +kernel
theorem dX7_within_0 : decode cX7_within 0 = .ok (.iload_n 0, 1) := by decide +kernel
theorem dX7_within_1 : decode cX7_within 1 = .ok (.iload_n 1, 1) := by decide +kernel
theorem dX7_within_2 : decode cX7_within 2 = .ok (.if_icmp .lt 12, 3) := by decide +kernel
theorem dX7_within_5 : decode cX7_within 5 = .ok (.iload_n 0, 1) := by decide +kernel
theorem dX7_within_6 : decode cX7_within 6 = .ok (.iload_n 2, 1) := by decide +kernel
theorem dX7_within_7 : decode cX7_within 7 = .ok (.if_icmp .gt 7, 3) := by decide +kernel
theorem dX7_within_10 : decode cX7_within 10 = .ok (.iconst 1, 1) := by decide +kernel
theorem dX7_within_11 : decode cX7_within 11 = .ok (.goto 4, 3) := by decide +kernel
theorem dX7_within_14 : decode cX7_within 14 = .ok (.iconst 0, 1) := by decide +kernel
theorem dX7_within_15 : decode cX7_within 15 = .ok (.ireturn, 1) := by decide +kernel
theorem dX7_isSheet_0 : decode cX7_isSheet 0 = .ok (.iload_n 0, 1) := by decide +kernel
theorem dX7_isSheet_1 : decode cX7_isSheet 1 = .ok (.iconst 0, 1) := by decide +kernel
theorem dX7_isSheet_2 : decode cX7_isSheet 2 = .ok (.iconst 3, 1) := by decide +kernel
theorem dX7_isSheet_3 : decode cX7_isSheet 3 = .ok (.invokestatic 59, 3) := by decide +kernel
theorem dX7_isSheet_6 : decode cX7_isSheet 6 = .ok (.ireturn, 1) := by decide +kernel
theorem dX7_isSort_0 : decode cX7_isSort 0 = .ok (.iload_n 0, 1) := by decide +kernel
theorem dX7_isSort_1 : decode cX7_isSort 1 = .ok (.iconst 0, 1) := by decide +kernel
theorem dX7_isSort_2 : decode cX7_isSort 2 = .ok (.iconst 2, 1) := by decide +kernel
theorem dX7_isSort_3 : decode cX7_isSort 3 = .ok (.invokestatic 59, 3) := by decide +kernel
theorem dX7_isSort_6 : decode cX7_isSort 6 = .ok (.ireturn, 1) := by decide +kernel
theorem dX7_against_0 : decode cX7_against 0 = .ok (.aload_n 0, 1) := by decide +kernel
theorem dX7_against_1 : decode cX7_against 1 = .ok (.getfield 9, 3) := by decide +kernel
theorem dX7_against_4 : decode cX7_against 4 = .ok (.iload_n 1, 1) := by decide +kernel
theorem dX7_against_5 : decode cX7_against 5 = .ok (.iaload, 1) := by decide +kernel
theorem dX7_against_6 : decode cX7_against 6 = .ok (.bipush (-9), 2) := by decide +kernel
theorem dX7_against_8 : decode cX7_against 8 = .ok (.if_icmp .eq 15, 3) := by decide +kernel
theorem dX7_against_11 : decode cX7_against 11 = .ok (.aload_n 0, 1) := by decide +kernel
theorem dX7_against_12 : decode cX7_against 12 = .ok (.getfield 9, 3) := by decide +kernel
theorem dX7_against_15 : decode cX7_against 15 = .ok (.iload_n 1, 1) := by decide +kernel
theorem dX7_against_16 : decode cX7_against 16 = .ok (.iaload, 1) := by decide +kernel
theorem dX7_against_17 : decode cX7_against 17 = .ok (.iload_n 2, 1) := by decide +kernel
theorem dX7_against_18 : decode cX7_against 18 = .ok (.if_icmp .eq 5, 3) := by decide +kernel
theorem dX7_against_21 : decode cX7_against 21 = .ok (.iconst 2, 1) := by decide +kernel
theorem dX7_against_22 : decode cX7_against 22 = .ok (.ireturn, 1) := by decide +kernel
theorem dX7_against_23 : decode cX7_against 23 = .ok (.aload_n 0, 1) := by decide +kernel
theorem dX7_against_24 : decode cX7_against 24 = .ok (.getfield 9, 3) := by decide +kernel
theorem dX7_against_27 : decode cX7_against 27 = .ok (.iload_n 1, 1) := by decide +kernel
theorem dX7_against_28 : decode cX7_against 28 = .ok (.iaload, 1) := by decide +kernel
theorem dX7_against_29 : decode cX7_against 29 = .ok (.bipush (-9), 2) := by decide +kernel
theorem dX7_against_31 : decode cX7_against 31 = .ok (.if_icmp .ne 5, 3) := by decide +kernel
theorem dX7_against_34 : decode cX7_against 34 = .ok (.iconst 1, 1) := by decide +kernel
theorem dX7_against_35 : decode cX7_against 35 = .ok (.ireturn, 1) := by decide +kernel
theorem dX7_against_36 : decode cX7_against 36 = .ok (.iload 4, 2) := by decide +kernel
theorem dX7_against_38 : decode cX7_against 38 = .ok (.ifCond .ge 5, 3) := by decide +kernel
theorem dX7_against_41 : decode cX7_against 41 = .ok (.iconst 4, 1) := by decide +kernel
theorem dX7_against_42 : decode cX7_against 42 = .ok (.ireturn, 1) := by decide +kernel
theorem dX7_against_43 : decode cX7_against 43 = .ok (.iload_n 3, 1) := by decide +kernel
theorem dX7_against_44 : decode cX7_against 44 = .ok (.ifCond .lt 26, 3) := by decide +kernel
theorem dX7_against_47 : decode cX7_against 47 = .ok (.iload_n 3, 1) := by decide +kernel
theorem dX7_against_48 : decode cX7_against 48 = .ok (.aload_n 0, 1) := by decide +kernel
theorem dX7_against_49 : decode cX7_against 49 = .ok (.getfield 13, 3) := by decide +kernel
theorem dX7_against_52 : decode cX7_against 52 = .ok (.iload_n 1, 1) := by decide +kernel
theorem dX7_against_53 : decode cX7_against 53 = .ok (.iaload, 1) := by decide +kernel
theorem dX7_against_54 : decode cX7_against 54 = .ok (.if_icmp .gt 16, 3) := by decide +kernel
theorem dX7_against_57 : decode cX7_against 57 = .ok (.iload 4, 2) := by decide +kernel
theorem dX7_against_59 : decode cX7_against 59 = .ok (.aload_n 0, 1) := by decide +kernel
theorem dX7_against_60 : decode cX7_against 60 = .ok (.getfield 13, 3) := by decide +kernel
theorem dX7_against_63 : decode cX7_against 63 = .ok (.iload_n 1, 1) := by decide +kernel
theorem dX7_against_64 : decode cX7_against 64 = .ok (.iaload, 1) := by decide +kernel
theorem dX7_against_65 : decode cX7_against 65 = .ok (.iload_n 3, 1) := by decide +kernel
theorem dX7_against_66 : decode cX7_against 66 = .ok (.isub, 1) := by decide +kernel
theorem dX7_against_67 : decode cX7_against 67 = .ok (.if_icmp .le 7, 3) := by decide +kernel
theorem dX7_against_70 : decode cX7_against 70 = .ok (.iconst 3, 1) := by decide +kernel
theorem dX7_against_71 : decode cX7_against 71 = .ok (.goto 4, 3) := by decide +kernel
theorem dX7_against_74 : decode cX7_against 74 = .ok (.iconst 0, 1) := by decide +kernel
theorem dX7_against_75 : decode cX7_against 75 = .ok (.ireturn, 1) := by decide +kernel
theorem dX7_isBoard_0 : decode cX7_isBoard 0 = .ok (.iload_n 1, 1) := by decide +kernel
theorem dX7_isBoard_1 : decode cX7_isBoard 1 = .ok (.ifCond .lt 15, 3) := by decide +kernel
theorem dX7_isBoard_4 : decode cX7_isBoard 4 = .ok (.iload_n 1, 1) := by decide +kernel
theorem dX7_isBoard_5 : decode cX7_isBoard 5 = .ok (.aload_n 0, 1) := by decide +kernel
theorem dX7_isBoard_6 : decode cX7_isBoard 6 = .ok (.getfield 63, 3) := by decide +kernel
theorem dX7_isBoard_9 : decode cX7_isBoard 9 = .ok (.if_icmp .ge 7, 3) := by decide +kernel
theorem dX7_isBoard_12 : decode cX7_isBoard 12 = .ok (.iconst 1, 1) := by decide +kernel
theorem dX7_isBoard_13 : decode cX7_isBoard 13 = .ok (.goto 4, 3) := by decide +kernel
theorem dX7_isBoard_16 : decode cX7_isBoard 16 = .ok (.iconst 0, 1) := by decide +kernel
theorem dX7_isBoard_17 : decode cX7_isBoard 17 = .ok (.ireturn, 1) := by decide +kernel
theorem dX7_isDoor_0 : decode cX7_isDoor 0 = .ok (.iload_n 1, 1) := by decide +kernel
theorem dX7_isDoor_1 : decode cX7_isDoor 1 = .ok (.ifCond .lt 15, 3) := by decide +kernel
theorem dX7_isDoor_4 : decode cX7_isDoor 4 = .ok (.iload_n 1, 1) := by decide +kernel
theorem dX7_isDoor_5 : decode cX7_isDoor 5 = .ok (.aload_n 0, 1) := by decide +kernel
theorem dX7_isDoor_6 : decode cX7_isDoor 6 = .ok (.getfield 66, 3) := by decide +kernel
theorem dX7_isDoor_9 : decode cX7_isDoor 9 = .ok (.if_icmp .ge 7, 3) := by decide +kernel
theorem dX7_isDoor_12 : decode cX7_isDoor 12 = .ok (.iconst 1, 1) := by decide +kernel
theorem dX7_isDoor_13 : decode cX7_isDoor 13 = .ok (.goto 4, 3) := by decide +kernel
theorem dX7_isDoor_16 : decode cX7_isDoor 16 = .ok (.iconst 0, 1) := by decide +kernel
theorem dX7_isDoor_17 : decode cX7_isDoor 17 = .ok (.ireturn, 1) := by decide +kernel
theorem dX7_isBeat_0 : decode cX7_isBeat 0 = .ok (.aload_n 0, 1) := by decide +kernel
theorem dX7_isBeat_1 : decode cX7_isBeat 1 = .ok (.iload_n 1, 1) := by decide +kernel
theorem dX7_isBeat_2 : decode cX7_isBeat 2 = .ok (.invokevirtual 69, 3) := by decide +kernel
theorem dX7_isBeat_5 : decode cX7_isBeat 5 = .ok (.ifCond .eq 21, 3) := by decide +kernel
theorem dX7_isBeat_8 : decode cX7_isBeat 8 = .ok (.iload_n 2, 1) := by decide +kernel
theorem dX7_isBeat_9 : decode cX7_isBeat 9 = .ok (.ifCond .lt 17, 3) := by decide +kernel
theorem dX7_isBeat_12 : decode cX7_isBeat 12 = .ok (.iload_n 2, 1) := by decide +kernel
theorem dX7_isBeat_13 : decode cX7_isBeat 13 = .ok (.aload_n 0, 1) := by decide +kernel
theorem dX7_isBeat_14 : decode cX7_isBeat 14 = .ok (.getfield 22, 3) := by decide +kernel
theorem dX7_isBeat_17 : decode cX7_isBeat 17 = .ok (.iload_n 1, 1) := by decide +kernel
theorem dX7_isBeat_18 : decode cX7_isBeat 18 = .ok (.iaload, 1) := by decide +kernel
theorem dX7_isBeat_19 : decode cX7_isBeat 19 = .ok (.if_icmp .ge 7, 3) := by decide +kernel
theorem dX7_isBeat_22 : decode cX7_isBeat 22 = .ok (.iconst 1, 1) := by decide +kernel
theorem dX7_isBeat_23 : decode cX7_isBeat 23 = .ok (.goto 4, 3) := by decide +kernel
theorem dX7_isBeat_26 : decode cX7_isBeat 26 = .ok (.iconst 0, 1) := by decide +kernel
theorem dX7_isBeat_27 : decode cX7_isBeat 27 = .ok (.ireturn, 1) := by decide +kernel
theorem dX7_spot_0 : decode cX7_spot 0 = .ok (.bipush 6, 2) := by decide +kernel
theorem dX7_spot_2 : decode cX7_spot 2 = .ok (.iload_n 0, 1) := by decide +kernel
theorem dX7_spot_3 : decode cX7_spot 3 = .ok (.imul, 1) := by decide +kernel
theorem dX7_spot_4 : decode cX7_spot 4 = .ok (.iload_n 1, 1) := by decide +kernel
theorem dX7_spot_5 : decode cX7_spot 5 = .ok (.iadd, 1) := by decide +kernel
theorem dX7_spot_6 : decode cX7_spot 6 = .ok (.ireturn, 1) := by decide +kernel
theorem dX7_digit_0 : decode cX7_digit 0 = .ok (.aload_n 0, 1) := by decide +kernel
theorem dX7_digit_1 : decode cX7_digit 1 = .ok (.getfield 73, 3) := by decide +kernel
theorem dX7_digit_4 : decode cX7_digit 4 = .ok (.iload_n 1, 1) := by decide +kernel
theorem dX7_digit_5 : decode cX7_digit 5 = .ok (.if_icmp .ge 26, 3) := by decide +kernel
theorem dX7_digit_8 : decode cX7_digit 8 = .ok (.aload_n 0, 1) := by decide +kernel
theorem dX7_digit_9 : decode cX7_digit 9 = .ok (.getfield 16, 3) := by decide +kernel
theorem dX7_digit_12 : decode cX7_digit 12 = .ok (.aload_n 0, 1) := by decide +kernel
theorem dX7_digit_13 : decode cX7_digit 13 = .ok (.getfield 73, 3) := by decide +kernel
theorem dX7_digit_16 : decode cX7_digit 16 = .ok (.iaload, 1) := by decide +kernel
theorem dX7_digit_17 : decode cX7_digit 17 = .ok (.bipush 48, 2) := by decide +kernel
theorem dX7_digit_19 : decode cX7_digit 19 = .ok (.iload_n 2, 1) := by decide +kernel
theorem dX7_digit_20 : decode cX7_digit 20 = .ok (.iadd, 1) := by decide +kernel
theorem dX7_digit_21 : decode cX7_digit 21 = .ok (.bipush 48, 2) := by decide +kernel
theorem dX7_digit_23 : decode cX7_digit 23 = .ok (.iload_n 3, 1) := by decide +kernel
theorem dX7_digit_24 : decode cX7_digit 24 = .ok (.iadd, 1) := by decide +kernel
theorem dX7_digit_25 : decode cX7_digit 25 = .ok (.invokestatic 59, 3) := by decide +kernel
theorem dX7_digit_28 : decode cX7_digit 28 = .ok (.ifCond .ne 6, 3) := by decide +kernel
theorem dX7_digit_31 : decode cX7_digit 31 = .ok (.bipush (-9), 2) := by decide +kernel
theorem dX7_digit_33 : decode cX7_digit 33 = .ok (.ireturn, 1) := by decide +kernel
theorem dX7_digit_34 : decode cX7_digit 34 = .ok (.aload_n 0, 1) := by decide +kernel
theorem dX7_digit_35 : decode cX7_digit 35 = .ok (.dup, 1) := by decide +kernel
theorem dX7_digit_36 : decode cX7_digit 36 = .ok (.getfield 73, 3) := by decide +kernel
theorem dX7_digit_39 : decode cX7_digit 39 = .ok (.iconst 1, 1) := by decide +kernel
theorem dX7_digit_40 : decode cX7_digit 40 = .ok (.iadd, 1) := by decide +kernel
theorem dX7_digit_41 : decode cX7_digit 41 = .ok (.putfield 73, 3) := by decide +kernel
theorem dX7_digit_44 : decode cX7_digit 44 = .ok (.aload_n 0, 1) := by decide +kernel
theorem dX7_digit_45 : decode cX7_digit 45 = .ok (.getfield 16, 3) := by decide +kernel
theorem dX7_digit_48 : decode cX7_digit 48 = .ok (.aload_n 0, 1) := by decide +kernel
theorem dX7_digit_49 : decode cX7_digit 49 = .ok (.getfield 73, 3) := by decide +kernel
theorem dX7_digit_52 : decode cX7_digit 52 = .ok (.iconst 1, 1) := by decide +kernel
theorem dX7_digit_53 : decode cX7_digit 53 = .ok (.isub, 1) := by decide +kernel
theorem dX7_digit_54 : decode cX7_digit 54 = .ok (.iaload, 1) := by decide +kernel
theorem dX7_digit_55 : decode cX7_digit 55 = .ok (.bipush 48, 2) := by decide +kernel
theorem dX7_digit_57 : decode cX7_digit 57 = .ok (.isub, 1) := by decide +kernel
theorem dX7_digit_58 : decode cX7_digit 58 = .ok (.ireturn, 1) := by decide +kernel
theorem dX7_lock_0 : decode cX7_lock 0 = .ok (.aload_n 0, 1) := by decide +kernel
theorem dX7_lock_1 : decode cX7_lock 1 = .ok (.iconst 0, 1) := by decide +kernel
theorem dX7_lock_2 : decode cX7_lock 2 = .ok (.putfield 53, 3) := by decide +kernel
theorem dX7_lock_5 : decode cX7_lock 5 = .ok (.iload_n 1, 1) := by decide +kernel
theorem dX7_lock_6 : decode cX7_lock 6 = .ok (.invokestatic 76, 3) := by decide +kernel
theorem dX7_lock_9 : decode cX7_lock 9 = .ok (.ifCond .ne 5, 3) := by decide +kernel
theorem dX7_lock_12 : decode cX7_lock 12 = .ok (.iconst (-1), 1) := by decide +kernel
theorem dX7_lock_13 : decode cX7_lock 13 = .ok (.ireturn, 1) := by decide +kernel
theorem dX7_lock_14 : decode cX7_lock 14 = .ok (.iload_n 2, 1) := by decide +kernel
theorem dX7_lock_15 : decode cX7_lock 15 = .ok (.invokestatic 79, 3) := by decide +kernel
theorem dX7_lock_18 : decode cX7_lock 18 = .ok (.ifCond .ne 6, 3) := by decide +kernel
theorem dX7_lock_21 : decode cX7_lock 21 = .ok (.bipush (-2), 2) := by decide +kernel
theorem dX7_lock_23 : decode cX7_lock 23 = .ok (.ireturn, 1) := by decide +kernel
theorem dX7_lock_24 : decode cX7_lock 24 = .ok (.aload_n 0, 1) := by decide +kernel
theorem dX7_lock_25 : decode cX7_lock 25 = .ok (.iload_n 1, 1) := by decide +kernel
theorem dX7_lock_26 : decode cX7_lock 26 = .ok (.iload_n 2, 1) := by decide +kernel
theorem dX7_lock_27 : decode cX7_lock 27 = .ok (.iload_n 3, 1) := by decide +kernel
theorem dX7_lock_28 : decode cX7_lock 28 = .ok (.iload 4, 2) := by decide +kernel
theorem dX7_lock_30 : decode cX7_lock 30 = .ok (.invokevirtual 82, 3) := by decide +kernel
theorem dX7_lock_33 : decode cX7_lock 33 = .ok (.istore 5, 2) := by decide +kernel
theorem dX7_lock_35 : decode cX7_lock 35 = .ok (.iload 5, 2) := by decide +kernel
theorem dX7_lock_37 : decode cX7_lock 37 = .ok (.ifCond .eq 10, 3) := by decide +kernel
theorem dX7_lock_40 : decode cX7_lock 40 = .ok (.aload_n 0, 1) := by decide +kernel
theorem dX7_lock_41 : decode cX7_lock 41 = .ok (.iload 5, 2) := by decide +kernel
theorem dX7_lock_43 : decode cX7_lock 43 = .ok (.invokevirtual 86, 3) := by decide +kernel
theorem dX7_lock_46 : decode cX7_lock 46 = .ok (.ireturn, 1) := by decide +kernel
theorem dX7_lock_47 : decode cX7_lock 47 = .ok (.bipush 80, 2) := by decide +kernel
theorem dX7_lock_49 : decode cX7_lock 49 = .ok (.iload_n 1, 1) := by decide +kernel
theorem dX7_lock_50 : decode cX7_lock 50 = .ok (.imul, 1) := by decide +kernel
theorem dX7_lock_51 : decode cX7_lock 51 = .ok (.iload_n 3, 1) := by decide +kernel
theorem dX7_lock_52 : decode cX7_lock 52 = .ok (.iadd, 1) := by decide +kernel
theorem dX7_lock_53 : decode cX7_lock 53 = .ok (.istore 6, 2) := by decide +kernel
theorem dX7_lock_55 : decode cX7_lock 55 = .ok (.aload_n 0, 1) := by decide +kernel
theorem dX7_lock_56 : decode cX7_lock 56 = .ok (.iload 6, 2) := by decide +kernel
theorem dX7_lock_58 : decode cX7_lock 58 = .ok (.putfield 73, 3) := by decide +kernel
theorem dX7_lock_61 : decode cX7_lock 61 = .ok (.aload_n 0, 1) := by decide +kernel
theorem dX7_lock_62 : decode cX7_lock 62 = .ok (.iload 6, 2) := by decide +kernel
theorem dX7_lock_64 : decode cX7_lock 64 = .ok (.iload 4, 2) := by decide +kernel
theorem dX7_lock_66 : decode cX7_lock 66 = .ok (.iadd, 1) := by decide +kernel
theorem dX7_lock_67 : decode cX7_lock 67 = .ok (.invokevirtual 90, 3) := by decide +kernel
theorem dX7_lock_70 : decode cX7_lock 70 = .ok (.ifCond .ne 14, 3) := by decide +kernel
theorem dX7_lock_73 : decode cX7_lock 73 = .ok (.bipush (-100), 2) := by decide +kernel
theorem dX7_lock_75 : decode cX7_lock 75 = .ok (.aload_n 0, 1) := by decide +kernel
theorem dX7_lock_76 : decode cX7_lock 76 = .ok (.getfield 73, 3) := by decide +kernel
theorem dX7_lock_79 : decode cX7_lock 79 = .ok (.iload 6, 2) := by decide +kernel
theorem dX7_lock_81 : decode cX7_lock 81 = .ok (.isub, 1) := by decide +kernel
theorem dX7_lock_82 : decode cX7_lock 82 = .ok (.isub, 1) := by decide +kernel
theorem dX7_lock_83 : decode cX7_lock 83 = .ok (.ireturn, 1) := by decide +kernel
theorem dX7_lock_84 : decode cX7_lock 84 = .ok (.aload_n 0, 1) := by decide +kernel
theorem dX7_lock_85 : decode cX7_lock 85 = .ok (.aload_n 0, 1) := by decide +kernel
theorem dX7_lock_86 : decode cX7_lock 86 = .ok (.getfield 93, 3) := by decide +kernel
theorem dX7_lock_89 : decode cX7_lock 89 = .ok (.putfield 63, 3) := by decide +kernel
theorem dX7_lock_92 : decode cX7_lock 92 = .ok (.aload_n 0, 1) := by decide +kernel
theorem dX7_lock_93 : decode cX7_lock 93 = .ok (.aload_n 0, 1) := by decide +kernel
theorem dX7_lock_94 : decode cX7_lock 94 = .ok (.getfield 96, 3) := by decide +kernel
theorem dX7_lock_97 : decode cX7_lock 97 = .ok (.putfield 66, 3) := by decide +kernel
theorem dX7_lock_100 : decode cX7_lock 100 = .ok (.iconst 0, 1) := by decide +kernel
theorem dX7_lock_101 : decode cX7_lock 101 = .ok (.istore 7, 2) := by decide +kernel
theorem dX7_lock_103 : decode cX7_lock 103 = .ok (.iload 7, 2) := by decide +kernel
theorem dX7_lock_105 : decode cX7_lock 105 = .ok (.aload_n 0, 1) := by decide +kernel
theorem dX7_lock_106 : decode cX7_lock 106 = .ok (.getfield 63, 3) := by decide +kernel
theorem dX7_lock_109 : decode cX7_lock 109 = .ok (.if_icmp .ge 23, 3) := by decide +kernel
theorem dX7_lock_112 : decode cX7_lock 112 = .ok (.aload_n 0, 1) := by decide +kernel
theorem dX7_lock_113 : decode cX7_lock 113 = .ok (.getfield 19, 3) := by decide +kernel
theorem dX7_lock_116 : decode cX7_lock 116 = .ok (.iload 7, 2) := by decide +kernel
theorem dX7_lock_118 : decode cX7_lock 118 = .ok (.aload_n 0, 1) := by decide +kernel
theorem dX7_lock_119 : decode cX7_lock 119 = .ok (.getfield 28, 3) := by decide +kernel
theorem dX7_lock_122 : decode cX7_lock 122 = .ok (.iload 7, 2) := by decide +kernel
theorem dX7_lock_124 : decode cX7_lock 124 = .ok (.iaload, 1) := by decide +kernel
theorem dX7_lock_125 : decode cX7_lock 125 = .ok (.iastore, 1) := by decide +kernel
theorem dX7_lock_126 : decode cX7_lock 126 = .ok (.iinc 7 1, 3) := by decide +kernel
theorem dX7_lock_129 : decode cX7_lock 129 = .ok (.goto (-26), 3) := by decide +kernel
theorem dX7_lock_132 : decode cX7_lock 132 = .ok (.iconst 0, 1) := by decide +kernel
theorem dX7_lock_133 : decode cX7_lock 133 = .ok (.istore 7, 2) := by decide +kernel
theorem dX7_lock_135 : decode cX7_lock 135 = .ok (.iload 7, 2) := by decide +kernel
theorem dX7_lock_137 : decode cX7_lock 137 = .ok (.aload_n 0, 1) := by decide +kernel
theorem dX7_lock_138 : decode cX7_lock 138 = .ok (.getfield 66, 3) := by decide +kernel
theorem dX7_lock_141 : decode cX7_lock 141 = .ok (.if_icmp .ge 68, 3) := by decide +kernel
theorem dX7_lock_144 : decode cX7_lock 144 = .ok (.aload_n 0, 1) := by decide +kernel
theorem dX7_lock_145 : decode cX7_lock 145 = .ok (.getfield 22, 3) := by decide +kernel
theorem dX7_lock_148 : decode cX7_lock 148 = .ok (.iload 7, 2) := by decide +kernel
theorem dX7_lock_150 : decode cX7_lock 150 = .ok (.aload_n 0, 1) := by decide +kernel
theorem dX7_lock_151 : decode cX7_lock 151 = .ok (.getfield 31, 3) := by decide +kernel
theorem dX7_lock_154 : decode cX7_lock 154 = .ok (.iload 7, 2) := by decide +kernel
theorem dX7_lock_156 : decode cX7_lock 156 = .ok (.iaload, 1) := by decide +kernel
theorem dX7_lock_157 : decode cX7_lock 157 = .ok (.iastore, 1) := by decide +kernel
theorem dX7_lock_158 : decode cX7_lock 158 = .ok (.iconst 0, 1) := by decide +kernel
theorem dX7_lock_159 : decode cX7_lock 159 = .ok (.istore 8, 2) := by decide +kernel
theorem dX7_lock_161 : decode cX7_lock 161 = .ok (.iload 8, 2) := by decide +kernel
theorem dX7_lock_163 : decode cX7_lock 163 = .ok (.aload_n 0, 1) := by decide +kernel
theorem dX7_lock_164 : decode cX7_lock 164 = .ok (.getfield 22, 3) := by decide +kernel
theorem dX7_lock_167 : decode cX7_lock 167 = .ok (.iload 7, 2) := by decide +kernel
theorem dX7_lock_169 : decode cX7_lock 169 = .ok (.iaload, 1) := by decide +kernel
theorem dX7_lock_170 : decode cX7_lock 170 = .ok (.if_icmp .ge 33, 3) := by decide +kernel
theorem dX7_lock_173 : decode cX7_lock 173 = .ok (.aload_n 0, 1) := by decide +kernel
theorem dX7_lock_174 : decode cX7_lock 174 = .ok (.getfield 25, 3) := by decide +kernel
theorem dX7_lock_177 : decode cX7_lock 177 = .ok (.iload 7, 2) := by decide +kernel
theorem dX7_lock_179 : decode cX7_lock 179 = .ok (.iload 8, 2) := by decide +kernel
theorem dX7_lock_181 : decode cX7_lock 181 = .ok (.invokestatic 99, 3) := by decide +kernel
theorem dX7_lock_184 : decode cX7_lock 184 = .ok (.aload_n 0, 1) := by decide +kernel
theorem dX7_lock_185 : decode cX7_lock 185 = .ok (.getfield 34, 3) := by decide +kernel
theorem dX7_lock_188 : decode cX7_lock 188 = .ok (.iload 7, 2) := by decide +kernel
theorem dX7_lock_190 : decode cX7_lock 190 = .ok (.iload 8, 2) := by decide +kernel
theorem dX7_lock_192 : decode cX7_lock 192 = .ok (.invokestatic 99, 3) := by decide +kernel
theorem dX7_lock_195 : decode cX7_lock 195 = .ok (.iaload, 1) := by decide +kernel
theorem dX7_lock_196 : decode cX7_lock 196 = .ok (.iastore, 1) := by decide +kernel
theorem dX7_lock_197 : decode cX7_lock 197 = .ok (.iinc 8 1, 3) := by decide +kernel
theorem dX7_lock_200 : decode cX7_lock 200 = .ok (.goto (-39), 3) := by decide +kernel
theorem dX7_lock_203 : decode cX7_lock 203 = .ok (.iinc 7 1, 3) := by decide +kernel
theorem dX7_lock_206 : decode cX7_lock 206 = .ok (.goto (-71), 3) := by decide +kernel
theorem dX7_lock_209 : decode cX7_lock 209 = .ok (.aload_n 0, 1) := by decide +kernel
theorem dX7_lock_210 : decode cX7_lock 210 = .ok (.iconst 0, 1) := by decide +kernel
theorem dX7_lock_211 : decode cX7_lock 211 = .ok (.putfield 103, 3) := by decide +kernel
theorem dX7_lock_214 : decode cX7_lock 214 = .ok (.aload_n 0, 1) := by decide +kernel
theorem dX7_lock_215 : decode cX7_lock 215 = .ok (.iconst 0, 1) := by decide +kernel
theorem dX7_lock_216 : decode cX7_lock 216 = .ok (.putfield 106, 3) := by decide +kernel
theorem dX7_lock_219 : decode cX7_lock 219 = .ok (.aload_n 0, 1) := by decide +kernel
theorem dX7_lock_220 : decode cX7_lock 220 = .ok (.getfield 66, 3) := by decide +kernel
theorem dX7_lock_223 : decode cX7_lock 223 = .ok (.ireturn, 1) := by decide +kernel
theorem dX7_readLock_0 : decode cX7_readLock 0 = .ok (.aload_n 0, 1) := by decide +kernel
theorem dX7_readLock_1 : decode cX7_readLock 1 = .ok (.getfield 73, 3) := by decide +kernel
theorem dX7_readLock_4 : decode cX7_readLock 4 = .ok (.iload_n 1, 1) := by decide +kernel
theorem dX7_readLock_5 : decode cX7_readLock 5 = .ok (.if_icmp .ge 17, 3) := by decide +kernel
theorem dX7_readLock_8 : decode cX7_readLock 8 = .ok (.aload_n 0, 1) := by decide +kernel
theorem dX7_readLock_9 : decode cX7_readLock 9 = .ok (.getfield 16, 3) := by decide +kernel
theorem dX7_readLock_12 : decode cX7_readLock 12 = .ok (.aload_n 0, 1) := by decide +kernel
theorem dX7_readLock_13 : decode cX7_readLock 13 = .ok (.getfield 73, 3) := by decide +kernel
theorem dX7_readLock_16 : decode cX7_readLock 16 = .ok (.iaload, 1) := by decide +kernel
theorem dX7_readLock_17 : decode cX7_readLock 17 = .ok (.bipush 108, 2) := by decide +kernel
theorem dX7_readLock_19 : decode cX7_readLock 19 = .ok (.if_icmp .eq 5, 3) := by decide +kernel
theorem dX7_readLock_22 : decode cX7_readLock 22 = .ok (.iconst 0, 1) := by decide +kernel
theorem dX7_readLock_23 : decode cX7_readLock 23 = .ok (.ireturn, 1) := by decide +kernel
theorem dX7_readLock_24 : decode cX7_readLock 24 = .ok (.aload_n 0, 1) := by decide +kernel
theorem dX7_readLock_25 : decode cX7_readLock 25 = .ok (.dup, 1) := by decide +kernel
theorem dX7_readLock_26 : decode cX7_readLock 26 = .ok (.getfield 73, 3) := by decide +kernel
theorem dX7_readLock_29 : decode cX7_readLock 29 = .ok (.iconst 1, 1) := by decide +kernel
theorem dX7_readLock_30 : decode cX7_readLock 30 = .ok (.iadd, 1) := by decide +kernel
theorem dX7_readLock_31 : decode cX7_readLock 31 = .ok (.putfield 73, 3) := by decide +kernel
theorem dX7_readLock_34 : decode cX7_readLock 34 = .ok (.aload_n 0, 1) := by decide +kernel
theorem dX7_readLock_35 : decode cX7_readLock 35 = .ok (.aload_n 0, 1) := by decide +kernel
theorem dX7_readLock_36 : decode cX7_readLock 36 = .ok (.iload_n 1, 1) := by decide +kernel
theorem dX7_readLock_37 : decode cX7_readLock 37 = .ok (.iconst 2, 1) := by decide +kernel
theorem dX7_readLock_38 : decode cX7_readLock 38 = .ok (.bipush 7, 2) := by decide +kernel
theorem dX7_readLock_40 : decode cX7_readLock 40 = .ok (.invokevirtual 109, 3) := by decide +kernel
theorem dX7_readLock_43 : decode cX7_readLock 43 = .ok (.putfield 93, 3) := by decide +kernel
theorem dX7_readLock_46 : decode cX7_readLock 46 = .ok (.aload_n 0, 1) := by decide +kernel
theorem dX7_readLock_47 : decode cX7_readLock 47 = .ok (.getfield 93, 3) := by decide +kernel
theorem dX7_readLock_50 : decode cX7_readLock 50 = .ok (.bipush (-9), 2) := by decide +kernel
theorem dX7_readLock_52 : decode cX7_readLock 52 = .ok (.if_icmp .ne 5, 3) := by decide +kernel
theorem dX7_readLock_55 : decode cX7_readLock 55 = .ok (.iconst 0, 1) := by decide +kernel
theorem dX7_readLock_56 : decode cX7_readLock 56 = .ok (.ireturn, 1) := by decide +kernel
theorem dX7_readLock_57 : decode cX7_readLock 57 = .ok (.iconst 0, 1) := by decide +kernel
theorem dX7_readLock_58 : decode cX7_readLock 58 = .ok (.istore_n 2, 1) := by decide +kernel
theorem dX7_readLock_59 : decode cX7_readLock 59 = .ok (.iload_n 2, 1) := by decide +kernel
theorem dX7_readLock_60 : decode cX7_readLock 60 = .ok (.aload_n 0, 1) := by decide +kernel
theorem dX7_readLock_61 : decode cX7_readLock 61 = .ok (.getfield 93, 3) := by decide +kernel
theorem dX7_readLock_64 : decode cX7_readLock 64 = .ok (.if_icmp .ge 36, 3) := by decide +kernel
theorem dX7_readLock_67 : decode cX7_readLock 67 = .ok (.aload_n 0, 1) := by decide +kernel
theorem dX7_readLock_68 : decode cX7_readLock 68 = .ok (.getfield 28, 3) := by decide +kernel
theorem dX7_readLock_71 : decode cX7_readLock 71 = .ok (.iload_n 2, 1) := by decide +kernel
theorem dX7_readLock_72 : decode cX7_readLock 72 = .ok (.aload_n 0, 1) := by decide +kernel
theorem dX7_readLock_73 : decode cX7_readLock 73 = .ok (.iload_n 1, 1) := by decide +kernel
theorem dX7_readLock_74 : decode cX7_readLock 74 = .ok (.iconst 1, 1) := by decide +kernel
theorem dX7_readLock_75 : decode cX7_readLock 75 = .ok (.bipush 9, 2) := by decide +kernel
theorem dX7_readLock_77 : decode cX7_readLock 77 = .ok (.invokevirtual 109, 3) := by decide +kernel
theorem dX7_readLock_80 : decode cX7_readLock 80 = .ok (.iastore, 1) := by decide +kernel
theorem dX7_readLock_81 : decode cX7_readLock 81 = .ok (.aload_n 0, 1) := by decide +kernel
theorem dX7_readLock_82 : decode cX7_readLock 82 = .ok (.getfield 28, 3) := by decide +kernel
theorem dX7_readLock_85 : decode cX7_readLock 85 = .ok (.iload_n 2, 1) := by decide +kernel
theorem dX7_readLock_86 : decode cX7_readLock 86 = .ok (.iaload, 1) := by decide +kernel
theorem dX7_readLock_87 : decode cX7_readLock 87 = .ok (.bipush (-9), 2) := by decide +kernel
theorem dX7_readLock_89 : decode cX7_readLock 89 = .ok (.if_icmp .ne 5, 3) := by decide +kernel
theorem dX7_readLock_92 : decode cX7_readLock 92 = .ok (.iconst 0, 1) := by decide +kernel
theorem dX7_readLock_93 : decode cX7_readLock 93 = .ok (.ireturn, 1) := by decide +kernel
theorem dX7_readLock_94 : decode cX7_readLock 94 = .ok (.iinc 2 1, 3) := by decide +kernel
theorem dX7_readLock_97 : decode cX7_readLock 97 = .ok (.goto (-38), 3) := by decide +kernel
theorem dX7_readLock_100 : decode cX7_readLock 100 = .ok (.aload_n 0, 1) := by decide +kernel
theorem dX7_readLock_101 : decode cX7_readLock 101 = .ok (.iconst 0, 1) := by decide +kernel
theorem dX7_readLock_102 : decode cX7_readLock 102 = .ok (.putfield 96, 3) := by decide +kernel
theorem dX7_readLock_105 : decode cX7_readLock 105 = .ok (.aload_n 0, 1) := by decide +kernel
theorem dX7_readLock_106 : decode cX7_readLock 106 = .ok (.getfield 96, 3) := by decide +kernel
theorem dX7_readLock_109 : decode cX7_readLock 109 = .ok (.ifCond .eq 11, 3) := by decide +kernel
theorem dX7_readLock_112 : decode cX7_readLock 112 = .ok (.aload_n 0, 1) := by decide +kernel
theorem dX7_readLock_113 : decode cX7_readLock 113 = .ok (.getfield 73, 3) := by decide +kernel
theorem dX7_readLock_116 : decode cX7_readLock 116 = .ok (.iload_n 1, 1) := by decide +kernel
theorem dX7_readLock_117 : decode cX7_readLock 117 = .ok (.if_icmp .ge 53, 3) := by decide +kernel
theorem dX7_readLock_120 : decode cX7_readLock 120 = .ok (.aload_n 0, 1) := by decide +kernel
theorem dX7_readLock_121 : decode cX7_readLock 121 = .ok (.getfield 96, 3) := by decide +kernel
theorem dX7_readLock_124 : decode cX7_readLock 124 = .ok (.iconst 4, 1) := by decide +kernel
theorem dX7_readLock_125 : decode cX7_readLock 125 = .ok (.if_icmp .eq 25, 3) := by decide +kernel
theorem dX7_readLock_128 : decode cX7_readLock 128 = .ok (.aload_n 0, 1) := by decide +kernel
theorem dX7_readLock_129 : decode cX7_readLock 129 = .ok (.getfield 73, 3) := by decide +kernel
theorem dX7_readLock_132 : decode cX7_readLock 132 = .ok (.iload_n 1, 1) := by decide +kernel
theorem dX7_readLock_133 : decode cX7_readLock 133 = .ok (.if_icmp .ge 17, 3) := by decide +kernel
theorem dX7_readLock_136 : decode cX7_readLock 136 = .ok (.aload_n 0, 1) := by decide +kernel
theorem dX7_readLock_137 : decode cX7_readLock 137 = .ok (.getfield 16, 3) := by decide +kernel
theorem dX7_readLock_140 : decode cX7_readLock 140 = .ok (.aload_n 0, 1) := by decide +kernel
theorem dX7_readLock_141 : decode cX7_readLock 141 = .ok (.getfield 73, 3) := by decide +kernel
theorem dX7_readLock_144 : decode cX7_readLock 144 = .ok (.iaload, 1) := by decide +kernel
theorem dX7_readLock_145 : decode cX7_readLock 145 = .ok (.bipush 59, 2) := by decide +kernel
theorem dX7_readLock_147 : decode cX7_readLock 147 = .ok (.if_icmp .eq 5, 3) := by decide +kernel
theorem dX7_readLock_150 : decode cX7_readLock 150 = .ok (.iconst 0, 1) := by decide +kernel
theorem dX7_readLock_151 : decode cX7_readLock 151 = .ok (.ireturn, 1) := by decide +kernel
theorem dX7_readLock_152 : decode cX7_readLock 152 = .ok (.aload_n 0, 1) := by decide +kernel
theorem dX7_readLock_153 : decode cX7_readLock 153 = .ok (.dup, 1) := by decide +kernel
theorem dX7_readLock_154 : decode cX7_readLock 154 = .ok (.getfield 73, 3) := by decide +kernel
theorem dX7_readLock_157 : decode cX7_readLock 157 = .ok (.iconst 1, 1) := by decide +kernel
theorem dX7_readLock_158 : decode cX7_readLock 158 = .ok (.iadd, 1) := by decide +kernel
theorem dX7_readLock_159 : decode cX7_readLock 159 = .ok (.putfield 73, 3) := by decide +kernel
theorem dX7_readLock_162 : decode cX7_readLock 162 = .ok (.aload_n 0, 1) := by decide +kernel
theorem dX7_readLock_163 : decode cX7_readLock 163 = .ok (.iload_n 1, 1) := by decide +kernel
theorem dX7_readLock_164 : decode cX7_readLock 164 = .ok (.invokevirtual 113, 3) := by decide +kernel
theorem dX7_readLock_167 : decode cX7_readLock 167 = .ok (.goto (-62), 3) := by decide +kernel
theorem dX7_readLock_170 : decode cX7_readLock 170 = .ok (.iconst 1, 1) := by decide +kernel
theorem dX7_readLock_171 : decode cX7_readLock 171 = .ok (.ireturn, 1) := by decide +kernel
theorem dX7_readDoor_0 : decode cX7_readDoor 0 = .ok (.iconst 0, 1) := by decide +kernel
theorem dX7_readDoor_1 : decode cX7_readDoor 1 = .ok (.istore_n 2, 1) := by decide +kernel
theorem dX7_readDoor_2 : decode cX7_readDoor 2 = .ok (.iconst 1, 1) := by decide +kernel
theorem dX7_readDoor_3 : decode cX7_readDoor 3 = .ok (.istore_n 3, 1) := by decide +kernel
theorem dX7_readDoor_4 : decode cX7_readDoor 4 = .ok (.iload_n 3, 1) := by decide +kernel
theorem dX7_readDoor_5 : decode cX7_readDoor 5 = .ok (.ifCond .eq 79, 3) := by decide +kernel
theorem dX7_readDoor_8 : decode cX7_readDoor 8 = .ok (.aload_n 0, 1) := by decide +kernel
theorem dX7_readDoor_9 : decode cX7_readDoor 9 = .ok (.getfield 34, 3) := by decide +kernel
theorem dX7_readDoor_12 : decode cX7_readDoor 12 = .ok (.aload_n 0, 1) := by decide +kernel
theorem dX7_readDoor_13 : decode cX7_readDoor 13 = .ok (.getfield 96, 3) := by decide +kernel
theorem dX7_readDoor_16 : decode cX7_readDoor 16 = .ok (.iload_n 2, 1) := by decide +kernel
theorem dX7_readDoor_17 : decode cX7_readDoor 17 = .ok (.invokestatic 99, 3) := by decide +kernel
theorem dX7_readDoor_20 : decode cX7_readDoor 20 = .ok (.aload_n 0, 1) := by decide +kernel
theorem dX7_readDoor_21 : decode cX7_readDoor 21 = .ok (.iload_n 1, 1) := by decide +kernel
theorem dX7_readDoor_22 : decode cX7_readDoor 22 = .ok (.invokevirtual 117, 3) := by decide +kernel
theorem dX7_readDoor_25 : decode cX7_readDoor 25 = .ok (.iastore, 1) := by decide +kernel
theorem dX7_readDoor_26 : decode cX7_readDoor 26 = .ok (.iinc 2 1, 3) := by decide +kernel
theorem dX7_readDoor_29 : decode cX7_readDoor 29 = .ok (.iload_n 2, 1) := by decide +kernel
theorem dX7_readDoor_30 : decode cX7_readDoor 30 = .ok (.bipush 6, 2) := by decide +kernel
theorem dX7_readDoor_32 : decode cX7_readDoor 32 = .ok (.if_icmp .ge 29, 3) := by decide +kernel
theorem dX7_readDoor_35 : decode cX7_readDoor 35 = .ok (.aload_n 0, 1) := by decide +kernel
theorem dX7_readDoor_36 : decode cX7_readDoor 36 = .ok (.getfield 73, 3) := by decide +kernel
theorem dX7_readDoor_39 : decode cX7_readDoor 39 = .ok (.iload_n 1, 1) := by decide +kernel
theorem dX7_readDoor_40 : decode cX7_readDoor 40 = .ok (.if_icmp .ge 21, 3) := by decide +kernel
theorem dX7_readDoor_43 : decode cX7_readDoor 43 = .ok (.aload_n 0, 1) := by decide +kernel
theorem dX7_readDoor_44 : decode cX7_readDoor 44 = .ok (.getfield 16, 3) := by decide +kernel
theorem dX7_readDoor_47 : decode cX7_readDoor 47 = .ok (.aload_n 0, 1) := by decide +kernel
theorem dX7_readDoor_48 : decode cX7_readDoor 48 = .ok (.getfield 73, 3) := by decide +kernel
theorem dX7_readDoor_51 : decode cX7_readDoor 51 = .ok (.iaload, 1) := by decide +kernel
theorem dX7_readDoor_52 : decode cX7_readDoor 52 = .ok (.bipush 44, 2) := by decide +kernel
theorem dX7_readDoor_54 : decode cX7_readDoor 54 = .ok (.if_icmp .ne 7, 3) := by decide +kernel
theorem dX7_readDoor_57 : decode cX7_readDoor 57 = .ok (.iconst 1, 1) := by decide +kernel
theorem dX7_readDoor_58 : decode cX7_readDoor 58 = .ok (.goto 4, 3) := by decide +kernel
theorem dX7_readDoor_61 : decode cX7_readDoor 61 = .ok (.iconst 0, 1) := by decide +kernel
theorem dX7_readDoor_62 : decode cX7_readDoor 62 = .ok (.istore_n 3, 1) := by decide +kernel
theorem dX7_readDoor_63 : decode cX7_readDoor 63 = .ok (.aload_n 0, 1) := by decide +kernel
theorem dX7_readDoor_64 : decode cX7_readDoor 64 = .ok (.dup, 1) := by decide +kernel
theorem dX7_readDoor_65 : decode cX7_readDoor 65 = .ok (.getfield 73, 3) := by decide +kernel
theorem dX7_readDoor_68 : decode cX7_readDoor 68 = .ok (.iload_n 3, 1) := by decide +kernel
theorem dX7_readDoor_69 : decode cX7_readDoor 69 = .ok (.ifCond .eq 7, 3) := by decide +kernel
theorem dX7_readDoor_72 : decode cX7_readDoor 72 = .ok (.iconst 1, 1) := by decide +kernel
theorem dX7_readDoor_73 : decode cX7_readDoor 73 = .ok (.goto 4, 3) := by decide +kernel
theorem dX7_readDoor_76 : decode cX7_readDoor 76 = .ok (.iconst 0, 1) := by decide +kernel
theorem dX7_readDoor_77 : decode cX7_readDoor 77 = .ok (.iadd, 1) := by decide +kernel
theorem dX7_readDoor_78 : decode cX7_readDoor 78 = .ok (.putfield 73, 3) := by decide +kernel
theorem dX7_readDoor_81 : decode cX7_readDoor 81 = .ok (.goto (-77), 3) := by decide +kernel
theorem dX7_readDoor_84 : decode cX7_readDoor 84 = .ok (.aload_n 0, 1) := by decide +kernel
theorem dX7_readDoor_85 : decode cX7_readDoor 85 = .ok (.getfield 31, 3) := by decide +kernel
theorem dX7_readDoor_88 : decode cX7_readDoor 88 = .ok (.aload_n 0, 1) := by decide +kernel
theorem dX7_readDoor_89 : decode cX7_readDoor 89 = .ok (.getfield 96, 3) := by decide +kernel
theorem dX7_readDoor_92 : decode cX7_readDoor 92 = .ok (.iload_n 2, 1) := by decide +kernel
theorem dX7_readDoor_93 : decode cX7_readDoor 93 = .ok (.iastore, 1) := by decide +kernel
theorem dX7_readDoor_94 : decode cX7_readDoor 94 = .ok (.aload_n 0, 1) := by decide +kernel
theorem dX7_readDoor_95 : decode cX7_readDoor 95 = .ok (.dup, 1) := by decide +kernel
theorem dX7_readDoor_96 : decode cX7_readDoor 96 = .ok (.getfield 96, 3) := by decide +kernel
theorem dX7_readDoor_99 : decode cX7_readDoor 99 = .ok (.iconst 1, 1) := by decide +kernel
theorem dX7_readDoor_100 : decode cX7_readDoor 100 = .ok (.iadd, 1) := by decide +kernel
theorem dX7_readDoor_101 : decode cX7_readDoor 101 = .ok (.putfield 96, 3) := by decide +kernel
theorem dX7_readDoor_104 : decode cX7_readDoor 104 = .ok (.return_, 1) := by decide +kernel
theorem dX7_readBeat_0 : decode cX7_readBeat 0 = .ok (.iconst 0, 1) := by decide +kernel
theorem dX7_readBeat_1 : decode cX7_readBeat 1 = .ok (.istore_n 2, 1) := by decide +kernel
theorem dX7_readBeat_2 : decode cX7_readBeat 2 = .ok (.iconst 0, 1) := by decide +kernel
theorem dX7_readBeat_3 : decode cX7_readBeat 3 = .ok (.istore_n 3, 1) := by decide +kernel
theorem dX7_readBeat_4 : decode cX7_readBeat 4 = .ok (.aload_n 0, 1) := by decide +kernel
theorem dX7_readBeat_5 : decode cX7_readBeat 5 = .ok (.iload_n 1, 1) := by decide +kernel
theorem dX7_readBeat_6 : decode cX7_readBeat 6 = .ok (.iconst 0, 1) := by decide +kernel
theorem dX7_readBeat_7 : decode cX7_readBeat 7 = .ok (.aload_n 0, 1) := by decide +kernel
theorem dX7_readBeat_8 : decode cX7_readBeat 8 = .ok (.getfield 93, 3) := by decide +kernel
theorem dX7_readBeat_11 : decode cX7_readBeat 11 = .ok (.iconst 1, 1) := by decide +kernel
theorem dX7_readBeat_12 : decode cX7_readBeat 12 = .ok (.isub, 1) := by decide +kernel
theorem dX7_readBeat_13 : decode cX7_readBeat 13 = .ok (.invokevirtual 109, 3) := by decide +kernel
theorem dX7_readBeat_16 : decode cX7_readBeat 16 = .ok (.istore 4, 2) := by decide +kernel
theorem dX7_readBeat_18 : decode cX7_readBeat 18 = .ok (.iconst 1, 1) := by decide +kernel
theorem dX7_readBeat_19 : decode cX7_readBeat 19 = .ok (.istore 5, 2) := by decide +kernel
theorem dX7_readBeat_21 : decode cX7_readBeat 21 = .ok (.iload 4, 2) := by decide +kernel
theorem dX7_readBeat_23 : decode cX7_readBeat 23 = .ok (.bipush (-9), 2) := by decide +kernel
theorem dX7_readBeat_25 : decode cX7_readBeat 25 = .ok (.if_icmp .eq 54, 3) := by decide +kernel
theorem dX7_readBeat_28 : decode cX7_readBeat 28 = .ok (.iload_n 2, 1) := by decide +kernel
theorem dX7_readBeat_29 : decode cX7_readBeat 29 = .ok (.iconst 1, 1) := by decide +kernel
theorem dX7_readBeat_30 : decode cX7_readBeat 30 = .ok (.iload 4, 2) := by decide +kernel
theorem dX7_readBeat_32 : decode cX7_readBeat 32 = .ok (.ishl, 1) := by decide +kernel
theorem dX7_readBeat_33 : decode cX7_readBeat 33 = .ok (.ior, 1) := by decide +kernel
theorem dX7_readBeat_34 : decode cX7_readBeat 34 = .ok (.istore_n 2, 1) := by decide +kernel
theorem dX7_readBeat_35 : decode cX7_readBeat 35 = .ok (.iload 4, 2) := by decide +kernel
theorem dX7_readBeat_37 : decode cX7_readBeat 37 = .ok (.iconst 1, 1) := by decide +kernel
theorem dX7_readBeat_38 : decode cX7_readBeat 38 = .ok (.iadd, 1) := by decide +kernel
theorem dX7_readBeat_39 : decode cX7_readBeat 39 = .ok (.istore_n 3, 1) := by decide +kernel
theorem dX7_readBeat_40 : decode cX7_readBeat 40 = .ok (.iload 5, 2) := by decide +kernel
theorem dX7_readBeat_42 : decode cX7_readBeat 42 = .ok (.iconst 4, 1) := by decide +kernel
theorem dX7_readBeat_43 : decode cX7_readBeat 43 = .ok (.if_icmp .eq 11, 3) := by decide +kernel
theorem dX7_readBeat_46 : decode cX7_readBeat 46 = .ok (.iload_n 3, 1) := by decide +kernel
theorem dX7_readBeat_47 : decode cX7_readBeat 47 = .ok (.aload_n 0, 1) := by decide +kernel
theorem dX7_readBeat_48 : decode cX7_readBeat 48 = .ok (.getfield 93, 3) := by decide +kernel
theorem dX7_readBeat_51 : decode cX7_readBeat 51 = .ok (.if_icmp .ne 8, 3) := by decide +kernel
theorem dX7_readBeat_54 : decode cX7_readBeat 54 = .ok (.bipush (-9), 2) := by decide +kernel
theorem dX7_readBeat_56 : decode cX7_readBeat 56 = .ok (.goto 15, 3) := by decide +kernel
theorem dX7_readBeat_59 : decode cX7_readBeat 59 = .ok (.aload_n 0, 1) := by decide +kernel
theorem dX7_readBeat_60 : decode cX7_readBeat 60 = .ok (.iload_n 1, 1) := by decide +kernel
theorem dX7_readBeat_61 : decode cX7_readBeat 61 = .ok (.iload_n 3, 1) := by decide +kernel
theorem dX7_readBeat_62 : decode cX7_readBeat 62 = .ok (.aload_n 0, 1) := by decide +kernel
theorem dX7_readBeat_63 : decode cX7_readBeat 63 = .ok (.getfield 93, 3) := by decide +kernel
theorem dX7_readBeat_66 : decode cX7_readBeat 66 = .ok (.iconst 1, 1) := by decide +kernel
theorem dX7_readBeat_67 : decode cX7_readBeat 67 = .ok (.isub, 1) := by decide +kernel
theorem dX7_readBeat_68 : decode cX7_readBeat 68 = .ok (.invokevirtual 109, 3) := by decide +kernel
theorem dX7_readBeat_71 : decode cX7_readBeat 71 = .ok (.istore 4, 2) := by decide +kernel
theorem dX7_readBeat_73 : decode cX7_readBeat 73 = .ok (.iinc 5 1, 3) := by decide +kernel
theorem dX7_readBeat_76 : decode cX7_readBeat 76 = .ok (.goto (-55), 3) := by decide +kernel
theorem dX7_readBeat_79 : decode cX7_readBeat 79 = .ok (.iload_n 2, 1) := by decide +kernel
theorem dX7_readBeat_80 : decode cX7_readBeat 80 = .ok (.ireturn, 1) := by decide +kernel
theorem dX7_board_0 : decode cX7_board 0 = .ok (.aload_n 0, 1) := by decide +kernel
theorem dX7_board_1 : decode cX7_board 1 = .ok (.iload_n 1, 1) := by decide +kernel
theorem dX7_board_2 : decode cX7_board 2 = .ok (.invokevirtual 120, 3) := by decide +kernel
theorem dX7_board_5 : decode cX7_board 5 = .ok (.ifCond .eq 12, 3) := by decide +kernel
theorem dX7_board_8 : decode cX7_board 8 = .ok (.aload_n 0, 1) := by decide +kernel
theorem dX7_board_9 : decode cX7_board 9 = .ok (.getfield 19, 3) := by decide +kernel
theorem dX7_board_12 : decode cX7_board 12 = .ok (.iload_n 1, 1) := by decide +kernel
theorem dX7_board_13 : decode cX7_board 13 = .ok (.iaload, 1) := by decide +kernel
theorem dX7_board_14 : decode cX7_board 14 = .ok (.goto 4, 3) := by decide +kernel
theorem dX7_board_17 : decode cX7_board 17 = .ok (.iconst (-1), 1) := by decide +kernel
theorem dX7_board_18 : decode cX7_board 18 = .ok (.ireturn, 1) := by decide +kernel
theorem dX7_beat_0 : decode cX7_beat 0 = .ok (.aload_n 0, 1) := by decide +kernel
theorem dX7_beat_1 : decode cX7_beat 1 = .ok (.iload_n 1, 1) := by decide +kernel
theorem dX7_beat_2 : decode cX7_beat 2 = .ok (.invokevirtual 69, 3) := by decide +kernel
theorem dX7_beat_5 : decode cX7_beat 5 = .ok (.ifCond .eq 17, 3) := by decide +kernel
theorem dX7_beat_8 : decode cX7_beat 8 = .ok (.iload_n 2, 1) := by decide +kernel
theorem dX7_beat_9 : decode cX7_beat 9 = .ok (.iconst (-1), 1) := by decide +kernel
theorem dX7_beat_10 : decode cX7_beat 10 = .ok (.if_icmp .eq 14, 3) := by decide +kernel
theorem dX7_beat_13 : decode cX7_beat 13 = .ok (.aload_n 0, 1) := by decide +kernel
theorem dX7_beat_14 : decode cX7_beat 14 = .ok (.iload_n 1, 1) := by decide +kernel
theorem dX7_beat_15 : decode cX7_beat 15 = .ok (.iload_n 2, 1) := by decide +kernel
theorem dX7_beat_16 : decode cX7_beat 16 = .ok (.invokevirtual 123, 3) := by decide +kernel
theorem dX7_beat_19 : decode cX7_beat 19 = .ok (.ifCond .ne 5, 3) := by decide +kernel
theorem dX7_beat_22 : decode cX7_beat 22 = .ok (.iconst (-1), 1) := by decide +kernel
theorem dX7_beat_23 : decode cX7_beat 23 = .ok (.ireturn, 1) := by decide +kernel
theorem dX7_beat_24 : decode cX7_beat 24 = .ok (.iload_n 2, 1) := by decide +kernel
theorem dX7_beat_25 : decode cX7_beat 25 = .ok (.iconst (-1), 1) := by decide +kernel
theorem dX7_beat_26 : decode cX7_beat 26 = .ok (.if_icmp .ne 12, 3) := by decide +kernel
theorem dX7_beat_29 : decode cX7_beat 29 = .ok (.aload_n 0, 1) := by decide +kernel
theorem dX7_beat_30 : decode cX7_beat 30 = .ok (.getfield 22, 3) := by decide +kernel
theorem dX7_beat_33 : decode cX7_beat 33 = .ok (.iload_n 1, 1) := by decide +kernel
theorem dX7_beat_34 : decode cX7_beat 34 = .ok (.iaload, 1) := by decide +kernel
theorem dX7_beat_35 : decode cX7_beat 35 = .ok (.goto 13, 3) := by decide +kernel
theorem dX7_beat_38 : decode cX7_beat 38 = .ok (.aload_n 0, 1) := by decide +kernel
theorem dX7_beat_39 : decode cX7_beat 39 = .ok (.getfield 25, 3) := by decide +kernel
theorem dX7_beat_42 : decode cX7_beat 42 = .ok (.iload_n 1, 1) := by decide +kernel
theorem dX7_beat_43 : decode cX7_beat 43 = .ok (.iload_n 2, 1) := by decide +kernel
theorem dX7_beat_44 : decode cX7_beat 44 = .ok (.invokestatic 99, 3) := by decide +kernel
theorem dX7_beat_47 : decode cX7_beat 47 = .ok (.iaload, 1) := by decide +kernel
theorem dX7_beat_48 : decode cX7_beat 48 = .ok (.ireturn, 1) := by decide +kernel
theorem dX7_size_0 : decode cX7_size 0 = .ok (.iconst 0, 1) := by decide +kernel
theorem dX7_size_1 : decode cX7_size 1 = .ok (.istore_n 1, 1) := by decide +kernel
theorem dX7_size_2 : decode cX7_size 2 = .ok (.iload_n 0, 1) := by decide +kernel
theorem dX7_size_3 : decode cX7_size 3 = .ok (.istore_n 2, 1) := by decide +kernel
theorem dX7_size_4 : decode cX7_size 4 = .ok (.iload_n 2, 1) := by decide +kernel
theorem dX7_size_5 : decode cX7_size 5 = .ok (.ifCond .le 16, 3) := by decide +kernel
theorem dX7_size_8 : decode cX7_size 8 = .ok (.iload_n 1, 1) := by decide +kernel
theorem dX7_size_9 : decode cX7_size 9 = .ok (.iload_n 2, 1) := by decide +kernel
theorem dX7_size_10 : decode cX7_size 10 = .ok (.iconst 1, 1) := by decide +kernel
theorem dX7_size_11 : decode cX7_size 11 = .ok (.iand, 1) := by decide +kernel
theorem dX7_size_12 : decode cX7_size 12 = .ok (.iadd, 1) := by decide +kernel
theorem dX7_size_13 : decode cX7_size 13 = .ok (.istore_n 1, 1) := by decide +kernel
theorem dX7_size_14 : decode cX7_size 14 = .ok (.iload_n 2, 1) := by decide +kernel
theorem dX7_size_15 : decode cX7_size 15 = .ok (.iconst 1, 1) := by decide +kernel
theorem dX7_size_16 : decode cX7_size 16 = .ok (.ishr, 1) := by decide +kernel
theorem dX7_size_17 : decode cX7_size 17 = .ok (.istore_n 2, 1) := by decide +kernel
theorem dX7_size_18 : decode cX7_size 18 = .ok (.goto (-14), 3) := by decide +kernel
theorem dX7_size_21 : decode cX7_size 21 = .ok (.iload_n 1, 1) := by decide +kernel
theorem dX7_size_22 : decode cX7_size 22 = .ok (.ireturn, 1) := by decide +kernel
theorem dX7_change_0 : decode cX7_change 0 = .ok (.aload_n 0, 1) := by decide +kernel
theorem dX7_change_1 : decode cX7_change 1 = .ok (.iload_n 1, 1) := by decide +kernel
theorem dX7_change_2 : decode cX7_change 2 = .ok (.iload_n 2, 1) := by decide +kernel
theorem dX7_change_3 : decode cX7_change 3 = .ok (.invokevirtual 123, 3) := by decide +kernel
theorem dX7_change_6 : decode cX7_change 6 = .ok (.ifCond .ne 5, 3) := by decide +kernel
theorem dX7_change_9 : decode cX7_change 9 = .ok (.iconst (-1), 1) := by decide +kernel
theorem dX7_change_10 : decode cX7_change 10 = .ok (.ireturn, 1) := by decide +kernel
theorem dX7_change_11 : decode cX7_change 11 = .ok (.iload_n 3, 1) := by decide +kernel
theorem dX7_change_12 : decode cX7_change 12 = .ok (.iconst 0, 1) := by decide +kernel
theorem dX7_change_13 : decode cX7_change 13 = .ok (.iconst 1, 1) := by decide +kernel
theorem dX7_change_14 : decode cX7_change 14 = .ok (.aload_n 0, 1) := by decide +kernel
theorem dX7_change_15 : decode cX7_change 15 = .ok (.getfield 63, 3) := by decide +kernel
theorem dX7_change_18 : decode cX7_change 18 = .ok (.ishl, 1) := by decide +kernel
theorem dX7_change_19 : decode cX7_change 19 = .ok (.iconst 1, 1) := by decide +kernel
theorem dX7_change_20 : decode cX7_change 20 = .ok (.isub, 1) := by decide +kernel
theorem dX7_change_21 : decode cX7_change 21 = .ok (.invokestatic 59, 3) := by decide +kernel
theorem dX7_change_24 : decode cX7_change 24 = .ok (.ifCond .eq 11, 3) := by decide +kernel
theorem dX7_change_27 : decode cX7_change 27 = .ok (.iload_n 3, 1) := by decide +kernel
theorem dX7_change_28 : decode cX7_change 28 = .ok (.invokestatic 127, 3) := by decide +kernel
theorem dX7_change_31 : decode cX7_change 31 = .ok (.iconst 4, 1) := by decide +kernel
theorem dX7_change_32 : decode cX7_change 32 = .ok (.if_icmp .le 6, 3) := by decide +kernel
theorem dX7_change_35 : decode cX7_change 35 = .ok (.bipush (-2), 2) := by decide +kernel
theorem dX7_change_37 : decode cX7_change 37 = .ok (.ireturn, 1) := by decide +kernel
theorem dX7_change_38 : decode cX7_change 38 = .ok (.aload_n 0, 1) := by decide +kernel
theorem dX7_change_39 : decode cX7_change 39 = .ok (.getfield 25, 3) := by decide +kernel
theorem dX7_change_42 : decode cX7_change 42 = .ok (.iload_n 1, 1) := by decide +kernel
theorem dX7_change_43 : decode cX7_change 43 = .ok (.iload_n 2, 1) := by decide +kernel
theorem dX7_change_44 : decode cX7_change 44 = .ok (.invokestatic 99, 3) := by decide +kernel
theorem dX7_change_47 : decode cX7_change 47 = .ok (.iaload, 1) := by decide +kernel
theorem dX7_change_48 : decode cX7_change 48 = .ok (.istore 4, 2) := by decide +kernel
theorem dX7_change_50 : decode cX7_change 50 = .ok (.aload_n 0, 1) := by decide +kernel
theorem dX7_change_51 : decode cX7_change 51 = .ok (.getfield 25, 3) := by decide +kernel
theorem dX7_change_54 : decode cX7_change 54 = .ok (.iload_n 1, 1) := by decide +kernel
theorem dX7_change_55 : decode cX7_change 55 = .ok (.iload_n 2, 1) := by decide +kernel
theorem dX7_change_56 : decode cX7_change 56 = .ok (.invokestatic 99, 3) := by decide +kernel
theorem dX7_change_59 : decode cX7_change 59 = .ok (.iload_n 3, 1) := by decide +kernel
theorem dX7_change_60 : decode cX7_change 60 = .ok (.iastore, 1) := by decide +kernel
theorem dX7_change_61 : decode cX7_change 61 = .ok (.iload 4, 2) := by decide +kernel
theorem dX7_change_63 : decode cX7_change 63 = .ok (.ireturn, 1) := by decide +kernel
theorem dX7_isDancer_0 : decode cX7_isDancer 0 = .ok (.iload_n 1, 1) := by decide +kernel
theorem dX7_isDancer_1 : decode cX7_isDancer 1 = .ok (.ifCond .lt 15, 3) := by decide +kernel
theorem dX7_isDancer_4 : decode cX7_isDancer 4 = .ok (.iload_n 1, 1) := by decide +kernel
theorem dX7_isDancer_5 : decode cX7_isDancer 5 = .ok (.aload_n 0, 1) := by decide +kernel
theorem dX7_isDancer_6 : decode cX7_isDancer 6 = .ok (.getfield 103, 3) := by decide +kernel
theorem dX7_isDancer_9 : decode cX7_isDancer 9 = .ok (.if_icmp .ge 7, 3) := by decide +kernel
theorem dX7_isDancer_12 : decode cX7_isDancer 12 = .ok (.iconst 1, 1) := by decide +kernel
theorem dX7_isDancer_13 : decode cX7_isDancer 13 = .ok (.goto 4, 3) := by decide +kernel
theorem dX7_isDancer_16 : decode cX7_isDancer 16 = .ok (.iconst 0, 1) := by decide +kernel
theorem dX7_isDancer_17 : decode cX7_isDancer 17 = .ok (.ireturn, 1) := by decide +kernel
theorem dX7_dancer_0 : decode cX7_dancer 0 = .ok (.iload_n 1, 1) := by decide +kernel
theorem dX7_dancer_1 : decode cX7_dancer 1 = .ok (.iconst 0, 1) := by decide +kernel
theorem dX7_dancer_2 : decode cX7_dancer 2 = .ok (.iconst 2, 1) := by decide +kernel
theorem dX7_dancer_3 : decode cX7_dancer 3 = .ok (.invokestatic 59, 3) := by decide +kernel
theorem dX7_dancer_6 : decode cX7_dancer 6 = .ok (.ifCond .eq 13, 3) := by decide +kernel
theorem dX7_dancer_9 : decode cX7_dancer 9 = .ok (.iload_n 2, 1) := by decide +kernel
theorem dX7_dancer_10 : decode cX7_dancer 10 = .ok (.iconst 1, 1) := by decide +kernel
theorem dX7_dancer_11 : decode cX7_dancer 11 = .ok (.bipush 9, 2) := by decide +kernel
theorem dX7_dancer_13 : decode cX7_dancer 13 = .ok (.invokestatic 59, 3) := by decide +kernel
theorem dX7_dancer_16 : decode cX7_dancer 16 = .ok (.ifCond .ne 6, 3) := by decide +kernel
theorem dX7_dancer_19 : decode cX7_dancer 19 = .ok (.bipush (-2), 2) := by decide +kernel
theorem dX7_dancer_21 : decode cX7_dancer 21 = .ok (.ireturn, 1) := by decide +kernel
theorem dX7_dancer_22 : decode cX7_dancer 22 = .ok (.aload_n 0, 1) := by decide +kernel
theorem dX7_dancer_23 : decode cX7_dancer 23 = .ok (.getfield 66, 3) := by decide +kernel
theorem dX7_dancer_26 : decode cX7_dancer 26 = .ok (.ifCond .ne 6, 3) := by decide +kernel
theorem dX7_dancer_29 : decode cX7_dancer 29 = .ok (.bipush (-3), 2) := by decide +kernel
theorem dX7_dancer_31 : decode cX7_dancer 31 = .ok (.ireturn, 1) := by decide +kernel
theorem dX7_dancer_32 : decode cX7_dancer 32 = .ok (.aload_n 0, 1) := by decide +kernel
theorem dX7_dancer_33 : decode cX7_dancer 33 = .ok (.getfield 103, 3) := by decide +kernel
theorem dX7_dancer_36 : decode cX7_dancer 36 = .ok (.iconst 4, 1) := by decide +kernel
theorem dX7_dancer_37 : decode cX7_dancer 37 = .ok (.if_icmp .ne 6, 3) := by decide +kernel
theorem dX7_dancer_40 : decode cX7_dancer 40 = .ok (.bipush (-4), 2) := by decide +kernel
theorem dX7_dancer_42 : decode cX7_dancer 42 = .ok (.ireturn, 1) := by decide +kernel
theorem dX7_dancer_43 : decode cX7_dancer 43 = .ok (.aload_n 0, 1) := by decide +kernel
theorem dX7_dancer_44 : decode cX7_dancer 44 = .ok (.getfield 37, 3) := by decide +kernel
theorem dX7_dancer_47 : decode cX7_dancer 47 = .ok (.aload_n 0, 1) := by decide +kernel
theorem dX7_dancer_48 : decode cX7_dancer 48 = .ok (.getfield 103, 3) := by decide +kernel
theorem dX7_dancer_51 : decode cX7_dancer 51 = .ok (.iload_n 1, 1) := by decide +kernel
theorem dX7_dancer_52 : decode cX7_dancer 52 = .ok (.iastore, 1) := by decide +kernel
theorem dX7_dancer_53 : decode cX7_dancer 53 = .ok (.aload_n 0, 1) := by decide +kernel
theorem dX7_dancer_54 : decode cX7_dancer 54 = .ok (.getfield 40, 3) := by decide +kernel
theorem dX7_dancer_57 : decode cX7_dancer 57 = .ok (.aload_n 0, 1) := by decide +kernel
theorem dX7_dancer_58 : decode cX7_dancer 58 = .ok (.getfield 103, 3) := by decide +kernel
theorem dX7_dancer_61 : decode cX7_dancer 61 = .ok (.iload_n 2, 1) := by decide +kernel
theorem dX7_dancer_62 : decode cX7_dancer 62 = .ok (.iastore, 1) := by decide +kernel
theorem dX7_dancer_63 : decode cX7_dancer 63 = .ok (.aload_n 0, 1) := by decide +kernel
theorem dX7_dancer_64 : decode cX7_dancer 64 = .ok (.dup, 1) := by decide +kernel
theorem dX7_dancer_65 : decode cX7_dancer 65 = .ok (.getfield 103, 3) := by decide +kernel
theorem dX7_dancer_68 : decode cX7_dancer 68 = .ok (.iconst 1, 1) := by decide +kernel
theorem dX7_dancer_69 : decode cX7_dancer 69 = .ok (.iadd, 1) := by decide +kernel
theorem dX7_dancer_70 : decode cX7_dancer 70 = .ok (.putfield 103, 3) := by decide +kernel
theorem dX7_dancer_73 : decode cX7_dancer 73 = .ok (.aload_n 0, 1) := by decide +kernel
theorem dX7_dancer_74 : decode cX7_dancer 74 = .ok (.getfield 103, 3) := by decide +kernel
theorem dX7_dancer_77 : decode cX7_dancer 77 = .ok (.iconst 1, 1) := by decide +kernel
theorem dX7_dancer_78 : decode cX7_dancer 78 = .ok (.isub, 1) := by decide +kernel
theorem dX7_dancer_79 : decode cX7_dancer 79 = .ok (.ireturn, 1) := by decide +kernel
theorem dX7_weighs_0 : decode cX7_weighs 0 = .ok (.aload_n 0, 1) := by decide +kernel
theorem dX7_weighs_1 : decode cX7_weighs 1 = .ok (.getfield 37, 3) := by decide +kernel
theorem dX7_weighs_4 : decode cX7_weighs 4 = .ok (.iload_n 1, 1) := by decide +kernel
theorem dX7_weighs_5 : decode cX7_weighs 5 = .ok (.iaload, 1) := by decide +kernel
theorem dX7_weighs_6 : decode cX7_weighs 6 = .ok (.iconst 2, 1) := by decide +kernel
theorem dX7_weighs_7 : decode cX7_weighs 7 = .ok (.if_icmp .ne 14, 3) := by decide +kernel
theorem dX7_weighs_10 : decode cX7_weighs 10 = .ok (.aload_n 0, 1) := by decide +kernel
theorem dX7_weighs_11 : decode cX7_weighs 11 = .ok (.getfield 40, 3) := by decide +kernel
theorem dX7_weighs_14 : decode cX7_weighs 14 = .ok (.iload_n 1, 1) := by decide +kernel
theorem dX7_weighs_15 : decode cX7_weighs 15 = .ok (.iaload, 1) := by decide +kernel
theorem dX7_weighs_16 : decode cX7_weighs 16 = .ok (.iconst 2, 1) := by decide +kernel
theorem dX7_weighs_17 : decode cX7_weighs 17 = .ok (.idiv, 1) := by decide +kernel
theorem dX7_weighs_18 : decode cX7_weighs 18 = .ok (.goto 9, 3) := by decide +kernel
theorem dX7_weighs_21 : decode cX7_weighs 21 = .ok (.aload_n 0, 1) := by decide +kernel
theorem dX7_weighs_22 : decode cX7_weighs 22 = .ok (.getfield 40, 3) := by decide +kernel
theorem dX7_weighs_25 : decode cX7_weighs 25 = .ok (.iload_n 1, 1) := by decide +kernel
theorem dX7_weighs_26 : decode cX7_weighs 26 = .ok (.iaload, 1) := by decide +kernel
theorem dX7_weighs_27 : decode cX7_weighs 27 = .ok (.ireturn, 1) := by decide +kernel
theorem dX7_ofDancer_0 : decode cX7_ofDancer 0 = .ok (.aload_n 0, 1) := by decide +kernel
theorem dX7_ofDancer_1 : decode cX7_ofDancer 1 = .ok (.iload_n 1, 1) := by decide +kernel
theorem dX7_ofDancer_2 : decode cX7_ofDancer 2 = .ok (.invokevirtual 130, 3) := by decide +kernel
theorem dX7_ofDancer_5 : decode cX7_ofDancer 5 = .ok (.ifCond .ne 5, 3) := by decide +kernel
theorem dX7_ofDancer_8 : decode cX7_ofDancer 8 = .ok (.iconst (-1), 1) := by decide +kernel
theorem dX7_ofDancer_9 : decode cX7_ofDancer 9 = .ok (.ireturn, 1) := by decide +kernel
theorem dX7_ofDancer_10 : decode cX7_ofDancer 10 = .ok (.iload_n 2, 1) := by decide +kernel
theorem dX7_ofDancer_11 : decode cX7_ofDancer 11 = .ok (.ifCond .ne 12, 3) := by decide +kernel
theorem dX7_ofDancer_14 : decode cX7_ofDancer 14 = .ok (.aload_n 0, 1) := by decide +kernel
theorem dX7_ofDancer_15 : decode cX7_ofDancer 15 = .ok (.getfield 37, 3) := by decide +kernel
theorem dX7_ofDancer_18 : decode cX7_ofDancer 18 = .ok (.iload_n 1, 1) := by decide +kernel
theorem dX7_ofDancer_19 : decode cX7_ofDancer 19 = .ok (.iaload, 1) := by decide +kernel
theorem dX7_ofDancer_20 : decode cX7_ofDancer 20 = .ok (.goto 32, 3) := by decide +kernel
theorem dX7_ofDancer_23 : decode cX7_ofDancer 23 = .ok (.iload_n 2, 1) := by decide +kernel
theorem dX7_ofDancer_24 : decode cX7_ofDancer 24 = .ok (.iconst 1, 1) := by decide +kernel
theorem dX7_ofDancer_25 : decode cX7_ofDancer 25 = .ok (.if_icmp .ne 12, 3) := by decide +kernel
theorem dX7_ofDancer_28 : decode cX7_ofDancer 28 = .ok (.aload_n 0, 1) := by decide +kernel
theorem dX7_ofDancer_29 : decode cX7_ofDancer 29 = .ok (.getfield 40, 3) := by decide +kernel
theorem dX7_ofDancer_32 : decode cX7_ofDancer 32 = .ok (.iload_n 1, 1) := by decide +kernel
theorem dX7_ofDancer_33 : decode cX7_ofDancer 33 = .ok (.iaload, 1) := by decide +kernel
theorem dX7_ofDancer_34 : decode cX7_ofDancer 34 = .ok (.goto 18, 3) := by decide +kernel
theorem dX7_ofDancer_37 : decode cX7_ofDancer 37 = .ok (.iload_n 2, 1) := by decide +kernel
theorem dX7_ofDancer_38 : decode cX7_ofDancer 38 = .ok (.iconst 2, 1) := by decide +kernel
theorem dX7_ofDancer_39 : decode cX7_ofDancer 39 = .ok (.if_icmp .ne 11, 3) := by decide +kernel
theorem dX7_ofDancer_42 : decode cX7_ofDancer 42 = .ok (.aload_n 0, 1) := by decide +kernel
theorem dX7_ofDancer_43 : decode cX7_ofDancer 43 = .ok (.iload_n 1, 1) := by decide +kernel
theorem dX7_ofDancer_44 : decode cX7_ofDancer 44 = .ok (.invokevirtual 133, 3) := by decide +kernel
theorem dX7_ofDancer_47 : decode cX7_ofDancer 47 = .ok (.goto 5, 3) := by decide +kernel
theorem dX7_ofDancer_50 : decode cX7_ofDancer 50 = .ok (.bipush (-2), 2) := by decide +kernel
theorem dX7_ofDancer_52 : decode cX7_ofDancer 52 = .ok (.ireturn, 1) := by decide +kernel
theorem dX7_leave_0 : decode cX7_leave 0 = .ok (.iload_n 1, 1) := by decide +kernel
theorem dX7_leave_1 : decode cX7_leave 1 = .ok (.iconst 0, 1) := by decide +kernel
theorem dX7_leave_2 : decode cX7_leave 2 = .ok (.aload_n 0, 1) := by decide +kernel
theorem dX7_leave_3 : decode cX7_leave 3 = .ok (.getfield 103, 3) := by decide +kernel
theorem dX7_leave_6 : decode cX7_leave 6 = .ok (.invokestatic 59, 3) := by decide +kernel
theorem dX7_leave_9 : decode cX7_leave 9 = .ok (.ifCond .ne 6, 3) := by decide +kernel
theorem dX7_leave_12 : decode cX7_leave 12 = .ok (.bipush (-2), 2) := by decide +kernel
theorem dX7_leave_14 : decode cX7_leave 14 = .ok (.ireturn, 1) := by decide +kernel
theorem dX7_leave_15 : decode cX7_leave 15 = .ok (.aload_n 0, 1) := by decide +kernel
theorem dX7_leave_16 : decode cX7_leave 16 = .ok (.dup, 1) := by decide +kernel
theorem dX7_leave_17 : decode cX7_leave 17 = .ok (.getfield 103, 3) := by decide +kernel
theorem dX7_leave_20 : decode cX7_leave 20 = .ok (.iload_n 1, 1) := by decide +kernel
theorem dX7_leave_21 : decode cX7_leave 21 = .ok (.isub, 1) := by decide +kernel
theorem dX7_leave_22 : decode cX7_leave 22 = .ok (.putfield 103, 3) := by decide +kernel
theorem dX7_leave_25 : decode cX7_leave 25 = .ok (.aload_n 0, 1) := by decide +kernel
theorem dX7_leave_26 : decode cX7_leave 26 = .ok (.getfield 103, 3) := by decide +kernel
theorem dX7_leave_29 : decode cX7_leave 29 = .ok (.ireturn, 1) := by decide +kernel
theorem dX7_feltIn_0 : decode cX7_feltIn 0 = .ok (.iconst 0, 1) := by decide +kernel
theorem dX7_feltIn_1 : decode cX7_feltIn 1 = .ok (.istore_n 2, 1) := by decide +kernel
theorem dX7_feltIn_2 : decode cX7_feltIn 2 = .ok (.iconst 0, 1) := by decide +kernel
theorem dX7_feltIn_3 : decode cX7_feltIn 3 = .ok (.istore_n 3, 1) := by decide +kernel
theorem dX7_feltIn_4 : decode cX7_feltIn 4 = .ok (.iload_n 3, 1) := by decide +kernel
theorem dX7_feltIn_5 : decode cX7_feltIn 5 = .ok (.aload_n 0, 1) := by decide +kernel
theorem dX7_feltIn_6 : decode cX7_feltIn 6 = .ok (.getfield 63, 3) := by decide +kernel
theorem dX7_feltIn_9 : decode cX7_feltIn 9 = .ok (.if_icmp .ge 118, 3) := by decide +kernel
theorem dX7_feltIn_12 : decode cX7_feltIn 12 = .ok (.iconst 0, 1) := by decide +kernel
theorem dX7_feltIn_13 : decode cX7_feltIn 13 = .ok (.istore 4, 2) := by decide +kernel
theorem dX7_feltIn_15 : decode cX7_feltIn 15 = .ok (.iconst 0, 1) := by decide +kernel
theorem dX7_feltIn_16 : decode cX7_feltIn 16 = .ok (.istore 5, 2) := by decide +kernel
theorem dX7_feltIn_18 : decode cX7_feltIn 18 = .ok (.iload 5, 2) := by decide +kernel
theorem dX7_feltIn_20 : decode cX7_feltIn 20 = .ok (.aload_n 0, 1) := by decide +kernel
theorem dX7_feltIn_21 : decode cX7_feltIn 21 = .ok (.getfield 103, 3) := by decide +kernel
theorem dX7_feltIn_24 : decode cX7_feltIn 24 = .ok (.if_icmp .ge 76, 3) := by decide +kernel
theorem dX7_feltIn_27 : decode cX7_feltIn 27 = .ok (.aload_n 0, 1) := by decide +kernel
theorem dX7_feltIn_28 : decode cX7_feltIn 28 = .ok (.getfield 43, 3) := by decide +kernel
theorem dX7_feltIn_31 : decode cX7_feltIn 31 = .ok (.iconst 4, 1) := by decide +kernel
theorem dX7_feltIn_32 : decode cX7_feltIn 32 = .ok (.aload_n 0, 1) := by decide +kernel
theorem dX7_feltIn_33 : decode cX7_feltIn 33 = .ok (.iload_n 1, 1) := by decide +kernel
theorem dX7_feltIn_34 : decode cX7_feltIn 34 = .ok (.iload 5, 2) := by decide +kernel
theorem dX7_feltIn_36 : decode cX7_feltIn 36 = .ok (.invokevirtual 136, 3) := by decide +kernel
theorem dX7_feltIn_39 : decode cX7_feltIn 39 = .ok (.ifCond .eq 9, 3) := by decide +kernel
theorem dX7_feltIn_42 : decode cX7_feltIn 42 = .ok (.iload_n 1, 1) := by decide +kernel
theorem dX7_feltIn_43 : decode cX7_feltIn 43 = .ok (.iconst 1, 1) := by decide +kernel
theorem dX7_feltIn_44 : decode cX7_feltIn 44 = .ok (.isub, 1) := by decide +kernel
theorem dX7_feltIn_45 : decode cX7_feltIn 45 = .ok (.goto 4, 3) := by decide +kernel
theorem dX7_feltIn_48 : decode cX7_feltIn 48 = .ok (.iload_n 1, 1) := by decide +kernel
theorem dX7_feltIn_49 : decode cX7_feltIn 49 = .ok (.imul, 1) := by decide +kernel
theorem dX7_feltIn_50 : decode cX7_feltIn 50 = .ok (.iload 5, 2) := by decide +kernel
theorem dX7_feltIn_52 : decode cX7_feltIn 52 = .ok (.iadd, 1) := by decide +kernel
theorem dX7_feltIn_53 : decode cX7_feltIn 53 = .ok (.iaload, 1) := by decide +kernel
theorem dX7_feltIn_54 : decode cX7_feltIn 54 = .ok (.istore 6, 2) := by decide +kernel
theorem dX7_feltIn_56 : decode cX7_feltIn 56 = .ok (.iload 4, 2) := by decide +kernel
theorem dX7_feltIn_58 : decode cX7_feltIn 58 = .ok (.iload 6, 2) := by decide +kernel
theorem dX7_feltIn_60 : decode cX7_feltIn 60 = .ok (.iload_n 3, 1) := by decide +kernel
theorem dX7_feltIn_61 : decode cX7_feltIn 61 = .ok (.if_icmp .eq 7, 3) := by decide +kernel
theorem dX7_feltIn_64 : decode cX7_feltIn 64 = .ok (.iconst 0, 1) := by decide +kernel
theorem dX7_feltIn_65 : decode cX7_feltIn 65 = .ok (.goto 26, 3) := by decide +kernel
theorem dX7_feltIn_68 : decode cX7_feltIn 68 = .ok (.aload_n 0, 1) := by decide +kernel
theorem dX7_feltIn_69 : decode cX7_feltIn 69 = .ok (.getfield 139, 3) := by decide +kernel
theorem dX7_feltIn_72 : decode cX7_feltIn 72 = .ok (.ifCond .eq 13, 3) := by decide +kernel
theorem dX7_feltIn_75 : decode cX7_feltIn 75 = .ok (.aload_n 0, 1) := by decide +kernel
theorem dX7_feltIn_76 : decode cX7_feltIn 76 = .ok (.getfield 40, 3) := by decide +kernel
theorem dX7_feltIn_79 : decode cX7_feltIn 79 = .ok (.iload 5, 2) := by decide +kernel
theorem dX7_feltIn_81 : decode cX7_feltIn 81 = .ok (.iaload, 1) := by decide +kernel
theorem dX7_feltIn_82 : decode cX7_feltIn 82 = .ok (.goto 9, 3) := by decide +kernel
theorem dX7_feltIn_85 : decode cX7_feltIn 85 = .ok (.aload_n 0, 1) := by decide +kernel
theorem dX7_feltIn_86 : decode cX7_feltIn 86 = .ok (.iload 5, 2) := by decide +kernel
theorem dX7_feltIn_88 : decode cX7_feltIn 88 = .ok (.invokevirtual 133, 3) := by decide +kernel
theorem dX7_feltIn_91 : decode cX7_feltIn 91 = .ok (.iadd, 1) := by decide +kernel
theorem dX7_feltIn_92 : decode cX7_feltIn 92 = .ok (.istore 4, 2) := by decide +kernel
theorem dX7_feltIn_94 : decode cX7_feltIn 94 = .ok (.iinc 5 1, 3) := by decide +kernel
theorem dX7_feltIn_97 : decode cX7_feltIn 97 = .ok (.goto (-79), 3) := by decide +kernel
theorem dX7_feltIn_100 : decode cX7_feltIn 100 = .ok (.iload_n 2, 1) := by decide +kernel
theorem dX7_feltIn_101 : decode cX7_feltIn 101 = .ok (.iload 4, 2) := by decide +kernel
theorem dX7_feltIn_103 : decode cX7_feltIn 103 = .ok (.aload_n 0, 1) := by decide +kernel
theorem dX7_feltIn_104 : decode cX7_feltIn 104 = .ok (.getfield 19, 3) := by decide +kernel
theorem dX7_feltIn_107 : decode cX7_feltIn 107 = .ok (.iload_n 3, 1) := by decide +kernel
theorem dX7_feltIn_108 : decode cX7_feltIn 108 = .ok (.iaload, 1) := by decide +kernel
theorem dX7_feltIn_109 : decode cX7_feltIn 109 = .ok (.if_icmp .lt 9, 3) := by decide +kernel
theorem dX7_feltIn_112 : decode cX7_feltIn 112 = .ok (.iconst 1, 1) := by decide +kernel
theorem dX7_feltIn_113 : decode cX7_feltIn 113 = .ok (.iload_n 3, 1) := by decide +kernel
theorem dX7_feltIn_114 : decode cX7_feltIn 114 = .ok (.ishl, 1) := by decide +kernel
theorem dX7_feltIn_115 : decode cX7_feltIn 115 = .ok (.goto 4, 3) := by decide +kernel
theorem dX7_feltIn_118 : decode cX7_feltIn 118 = .ok (.iconst 0, 1) := by decide +kernel
theorem dX7_feltIn_119 : decode cX7_feltIn 119 = .ok (.ior, 1) := by decide +kernel
theorem dX7_feltIn_120 : decode cX7_feltIn 120 = .ok (.istore_n 2, 1) := by decide +kernel
theorem dX7_feltIn_121 : decode cX7_feltIn 121 = .ok (.iinc 3 1, 3) := by decide +kernel
theorem dX7_feltIn_124 : decode cX7_feltIn 124 = .ok (.goto (-120), 3) := by decide +kernel
theorem dX7_feltIn_127 : decode cX7_feltIn 127 = .ok (.iload_n 2, 1) := by decide +kernel
theorem dX7_feltIn_128 : decode cX7_feltIn 128 = .ok (.ireturn, 1) := by decide +kernel
theorem dX7_wrongIn_0 : decode cX7_wrongIn 0 = .ok (.iconst 0, 1) := by decide +kernel
theorem dX7_wrongIn_1 : decode cX7_wrongIn 1 = .ok (.istore_n 2, 1) := by decide +kernel
theorem dX7_wrongIn_2 : decode cX7_wrongIn 2 = .ok (.iload_n 2, 1) := by decide +kernel
theorem dX7_wrongIn_3 : decode cX7_wrongIn 3 = .ok (.aload_n 0, 1) := by decide +kernel
theorem dX7_wrongIn_4 : decode cX7_wrongIn 4 = .ok (.getfield 22, 3) := by decide +kernel
theorem dX7_wrongIn_7 : decode cX7_wrongIn 7 = .ok (.iload_n 1, 1) := by decide +kernel
theorem dX7_wrongIn_8 : decode cX7_wrongIn 8 = .ok (.iaload, 1) := by decide +kernel
theorem dX7_wrongIn_9 : decode cX7_wrongIn 9 = .ok (.if_icmp .ge 29, 3) := by decide +kernel
theorem dX7_wrongIn_12 : decode cX7_wrongIn 12 = .ok (.aload_n 0, 1) := by decide +kernel
theorem dX7_wrongIn_13 : decode cX7_wrongIn 13 = .ok (.iload_n 2, 1) := by decide +kernel
theorem dX7_wrongIn_14 : decode cX7_wrongIn 14 = .ok (.invokevirtual 143, 3) := by decide +kernel
theorem dX7_wrongIn_17 : decode cX7_wrongIn 17 = .ok (.aload_n 0, 1) := by decide +kernel
theorem dX7_wrongIn_18 : decode cX7_wrongIn 18 = .ok (.getfield 25, 3) := by decide +kernel
theorem dX7_wrongIn_21 : decode cX7_wrongIn 21 = .ok (.iload_n 1, 1) := by decide +kernel
theorem dX7_wrongIn_22 : decode cX7_wrongIn 22 = .ok (.iload_n 2, 1) := by decide +kernel
theorem dX7_wrongIn_23 : decode cX7_wrongIn 23 = .ok (.invokestatic 99, 3) := by decide +kernel
theorem dX7_wrongIn_26 : decode cX7_wrongIn 26 = .ok (.iaload, 1) := by decide +kernel
theorem dX7_wrongIn_27 : decode cX7_wrongIn 27 = .ok (.if_icmp .eq 5, 3) := by decide +kernel
theorem dX7_wrongIn_30 : decode cX7_wrongIn 30 = .ok (.iload_n 2, 1) := by decide +kernel
theorem dX7_wrongIn_31 : decode cX7_wrongIn 31 = .ok (.ireturn, 1) := by decide +kernel
theorem dX7_wrongIn_32 : decode cX7_wrongIn 32 = .ok (.iinc 2 1, 3) := by decide +kernel
theorem dX7_wrongIn_35 : decode cX7_wrongIn 35 = .ok (.goto (-33), 3) := by decide +kernel
theorem dX7_wrongIn_38 : decode cX7_wrongIn 38 = .ok (.bipush (-9), 2) := by decide +kernel
theorem dX7_wrongIn_40 : decode cX7_wrongIn 40 = .ok (.ireturn, 1) := by decide +kernel
theorem dX7_openedBy_0 : decode cX7_openedBy 0 = .ok (.iconst 0, 1) := by decide +kernel
theorem dX7_openedBy_1 : decode cX7_openedBy 1 = .ok (.istore_n 2, 1) := by decide +kernel
theorem dX7_openedBy_2 : decode cX7_openedBy 2 = .ok (.iload_n 2, 1) := by decide +kernel
theorem dX7_openedBy_3 : decode cX7_openedBy 3 = .ok (.aload_n 0, 1) := by decide +kernel
theorem dX7_openedBy_4 : decode cX7_openedBy 4 = .ok (.getfield 66, 3) := by decide +kernel
theorem dX7_openedBy_7 : decode cX7_openedBy 7 = .ok (.if_icmp .ge 31, 3) := by decide +kernel
theorem dX7_openedBy_10 : decode cX7_openedBy 10 = .ok (.aload_n 0, 1) := by decide +kernel
theorem dX7_openedBy_11 : decode cX7_openedBy 11 = .ok (.getfield 22, 3) := by decide +kernel
theorem dX7_openedBy_14 : decode cX7_openedBy 14 = .ok (.iload_n 2, 1) := by decide +kernel
theorem dX7_openedBy_15 : decode cX7_openedBy 15 = .ok (.iaload, 1) := by decide +kernel
theorem dX7_openedBy_16 : decode cX7_openedBy 16 = .ok (.iload_n 1, 1) := by decide +kernel
theorem dX7_openedBy_17 : decode cX7_openedBy 17 = .ok (.if_icmp .ne 15, 3) := by decide +kernel
theorem dX7_openedBy_20 : decode cX7_openedBy 20 = .ok (.aload_n 0, 1) := by decide +kernel
theorem dX7_openedBy_21 : decode cX7_openedBy 21 = .ok (.iload_n 2, 1) := by decide +kernel
theorem dX7_openedBy_22 : decode cX7_openedBy 22 = .ok (.invokevirtual 146, 3) := by decide +kernel
theorem dX7_openedBy_25 : decode cX7_openedBy 25 = .ok (.bipush (-9), 2) := by decide +kernel
theorem dX7_openedBy_27 : decode cX7_openedBy 27 = .ok (.if_icmp .ne 5, 3) := by decide +kernel
theorem dX7_openedBy_30 : decode cX7_openedBy 30 = .ok (.iload_n 2, 1) := by decide +kernel
theorem dX7_openedBy_31 : decode cX7_openedBy 31 = .ok (.ireturn, 1) := by decide +kernel
theorem dX7_openedBy_32 : decode cX7_openedBy 32 = .ok (.iinc 2 1, 3) := by decide +kernel
theorem dX7_openedBy_35 : decode cX7_openedBy 35 = .ok (.goto (-33), 3) := by decide +kernel
theorem dX7_openedBy_38 : decode cX7_openedBy 38 = .ok (.bipush (-9), 2) := by decide +kernel
theorem dX7_openedBy_40 : decode cX7_openedBy 40 = .ok (.ireturn, 1) := by decide +kernel
theorem dX7_layPlan_0 : decode cX7_layPlan 0 = .ok (.aload_n 0, 1) := by decide +kernel
theorem dX7_layPlan_1 : decode cX7_layPlan 1 = .ok (.iload_n 2, 1) := by decide +kernel
theorem dX7_layPlan_2 : decode cX7_layPlan 2 = .ok (.iload_n 3, 1) := by decide +kernel
theorem dX7_layPlan_3 : decode cX7_layPlan 3 = .ok (.iload 4, 2) := by decide +kernel
theorem dX7_layPlan_5 : decode cX7_layPlan 5 = .ok (.iload_n 1, 1) := by decide +kernel
theorem dX7_layPlan_6 : decode cX7_layPlan 6 = .ok (.aload_n 0, 1) := by decide +kernel
theorem dX7_layPlan_7 : decode cX7_layPlan 7 = .ok (.getfield 103, 3) := by decide +kernel
theorem dX7_layPlan_10 : decode cX7_layPlan 10 = .ok (.imul, 1) := by decide +kernel
theorem dX7_layPlan_11 : decode cX7_layPlan 11 = .ok (.invokevirtual 82, 3) := by decide +kernel
theorem dX7_layPlan_14 : decode cX7_layPlan 14 = .ok (.istore 5, 2) := by decide +kernel
theorem dX7_layPlan_16 : decode cX7_layPlan 16 = .ok (.iload 5, 2) := by decide +kernel
theorem dX7_layPlan_18 : decode cX7_layPlan 18 = .ok (.ifCond .eq 10, 3) := by decide +kernel
theorem dX7_layPlan_21 : decode cX7_layPlan 21 = .ok (.aload_n 0, 1) := by decide +kernel
theorem dX7_layPlan_22 : decode cX7_layPlan 22 = .ok (.iload 5, 2) := by decide +kernel
theorem dX7_layPlan_24 : decode cX7_layPlan 24 = .ok (.invokevirtual 86, 3) := by decide +kernel
theorem dX7_layPlan_27 : decode cX7_layPlan 27 = .ok (.ireturn, 1) := by decide +kernel
theorem dX7_layPlan_28 : decode cX7_layPlan 28 = .ok (.aload_n 0, 1) := by decide +kernel
theorem dX7_layPlan_29 : decode cX7_layPlan 29 = .ok (.getfield 66, 3) := by decide +kernel
theorem dX7_layPlan_32 : decode cX7_layPlan 32 = .ok (.ifCond .ne 6, 3) := by decide +kernel
theorem dX7_layPlan_35 : decode cX7_layPlan 35 = .ok (.bipush (-3), 2) := by decide +kernel
theorem dX7_layPlan_37 : decode cX7_layPlan 37 = .ok (.ireturn, 1) := by decide +kernel
theorem dX7_layPlan_38 : decode cX7_layPlan 38 = .ok (.iconst 0, 1) := by decide +kernel
theorem dX7_layPlan_39 : decode cX7_layPlan 39 = .ok (.istore 6, 2) := by decide +kernel
theorem dX7_layPlan_41 : decode cX7_layPlan 41 = .ok (.iload 6, 2) := by decide +kernel
theorem dX7_layPlan_43 : decode cX7_layPlan 43 = .ok (.iload_n 1, 1) := by decide +kernel
theorem dX7_layPlan_44 : decode cX7_layPlan 44 = .ok (.if_icmp .ge 77, 3) := by decide +kernel
theorem dX7_layPlan_47 : decode cX7_layPlan 47 = .ok (.iconst 0, 1) := by decide +kernel
theorem dX7_layPlan_48 : decode cX7_layPlan 48 = .ok (.istore 7, 2) := by decide +kernel
theorem dX7_layPlan_50 : decode cX7_layPlan 50 = .ok (.iload 7, 2) := by decide +kernel
theorem dX7_layPlan_52 : decode cX7_layPlan 52 = .ok (.aload_n 0, 1) := by decide +kernel
theorem dX7_layPlan_53 : decode cX7_layPlan 53 = .ok (.getfield 103, 3) := by decide +kernel
theorem dX7_layPlan_56 : decode cX7_layPlan 56 = .ok (.if_icmp .ge 59, 3) := by decide +kernel
theorem dX7_layPlan_59 : decode cX7_layPlan 59 = .ok (.aload_n 0, 1) := by decide +kernel
theorem dX7_layPlan_60 : decode cX7_layPlan 60 = .ok (.getfield 16, 3) := by decide +kernel
theorem dX7_layPlan_63 : decode cX7_layPlan 63 = .ok (.bipush 80, 2) := by decide +kernel
theorem dX7_layPlan_65 : decode cX7_layPlan 65 = .ok (.iload_n 2, 1) := by decide +kernel
theorem dX7_layPlan_66 : decode cX7_layPlan 66 = .ok (.imul, 1) := by decide +kernel
theorem dX7_layPlan_67 : decode cX7_layPlan 67 = .ok (.iload 4, 2) := by decide +kernel
theorem dX7_layPlan_69 : decode cX7_layPlan 69 = .ok (.iadd, 1) := by decide +kernel
theorem dX7_layPlan_70 : decode cX7_layPlan 70 = .ok (.aload_n 0, 1) := by decide +kernel
theorem dX7_layPlan_71 : decode cX7_layPlan 71 = .ok (.getfield 103, 3) := by decide +kernel
theorem dX7_layPlan_74 : decode cX7_layPlan 74 = .ok (.iload 6, 2) := by decide +kernel
theorem dX7_layPlan_76 : decode cX7_layPlan 76 = .ok (.imul, 1) := by decide +kernel
theorem dX7_layPlan_77 : decode cX7_layPlan 77 = .ok (.iadd, 1) := by decide +kernel
theorem dX7_layPlan_78 : decode cX7_layPlan 78 = .ok (.iload 7, 2) := by decide +kernel
theorem dX7_layPlan_80 : decode cX7_layPlan 80 = .ok (.iadd, 1) := by decide +kernel
theorem dX7_layPlan_81 : decode cX7_layPlan 81 = .ok (.iaload, 1) := by decide +kernel
theorem dX7_layPlan_82 : decode cX7_layPlan 82 = .ok (.istore 8, 2) := by decide +kernel
theorem dX7_layPlan_84 : decode cX7_layPlan 84 = .ok (.aload_n 0, 1) := by decide +kernel
theorem dX7_layPlan_85 : decode cX7_layPlan 85 = .ok (.iload 8, 2) := by decide +kernel
theorem dX7_layPlan_87 : decode cX7_layPlan 87 = .ok (.invokevirtual 120, 3) := by decide +kernel
theorem dX7_layPlan_90 : decode cX7_layPlan 90 = .ok (.ifCond .ne 5, 3) := by decide +kernel
theorem dX7_layPlan_93 : decode cX7_layPlan 93 = .ok (.iconst (-1), 1) := by decide +kernel
theorem dX7_layPlan_94 : decode cX7_layPlan 94 = .ok (.ireturn, 1) := by decide +kernel
theorem dX7_layPlan_95 : decode cX7_layPlan 95 = .ok (.aload_n 0, 1) := by decide +kernel
theorem dX7_layPlan_96 : decode cX7_layPlan 96 = .ok (.getfield 43, 3) := by decide +kernel
theorem dX7_layPlan_99 : decode cX7_layPlan 99 = .ok (.iconst 4, 1) := by decide +kernel
theorem dX7_layPlan_100 : decode cX7_layPlan 100 = .ok (.iload 6, 2) := by decide +kernel
theorem dX7_layPlan_102 : decode cX7_layPlan 102 = .ok (.imul, 1) := by decide +kernel
theorem dX7_layPlan_103 : decode cX7_layPlan 103 = .ok (.iload 7, 2) := by decide +kernel
theorem dX7_layPlan_105 : decode cX7_layPlan 105 = .ok (.iadd, 1) := by decide +kernel
theorem dX7_layPlan_106 : decode cX7_layPlan 106 = .ok (.iload 8, 2) := by decide +kernel
theorem dX7_layPlan_108 : decode cX7_layPlan 108 = .ok (.iastore, 1) := by decide +kernel
theorem dX7_layPlan_109 : decode cX7_layPlan 109 = .ok (.iinc 7 1, 3) := by decide +kernel
theorem dX7_layPlan_112 : decode cX7_layPlan 112 = .ok (.goto (-62), 3) := by decide +kernel
theorem dX7_layPlan_115 : decode cX7_layPlan 115 = .ok (.iinc 6 1, 3) := by decide +kernel
theorem dX7_layPlan_118 : decode cX7_layPlan 118 = .ok (.goto (-77), 3) := by decide +kernel
theorem dX7_layPlan_121 : decode cX7_layPlan 121 = .ok (.iconst 0, 1) := by decide +kernel
theorem dX7_layPlan_122 : decode cX7_layPlan 122 = .ok (.ireturn, 1) := by decide +kernel
theorem dX7_opens_0 : decode cX7_opens 0 = .ok (.aload_n 0, 1) := by decide +kernel
theorem dX7_opens_1 : decode cX7_opens 1 = .ok (.iconst 0, 1) := by decide +kernel
theorem dX7_opens_2 : decode cX7_opens 2 = .ok (.putfield 53, 3) := by decide +kernel
theorem dX7_opens_5 : decode cX7_opens 5 = .ok (.iload_n 2, 1) := by decide +kernel
theorem dX7_opens_6 : decode cX7_opens 6 = .ok (.invokestatic 76, 3) := by decide +kernel
theorem dX7_opens_9 : decode cX7_opens 9 = .ok (.ifCond .ne 5, 3) := by decide +kernel
theorem dX7_opens_12 : decode cX7_opens 12 = .ok (.iconst (-1), 1) := by decide +kernel
theorem dX7_opens_13 : decode cX7_opens 13 = .ok (.ireturn, 1) := by decide +kernel
theorem dX7_opens_14 : decode cX7_opens 14 = .ok (.iload_n 3, 1) := by decide +kernel
theorem dX7_opens_15 : decode cX7_opens 15 = .ok (.invokestatic 79, 3) := by decide +kernel
theorem dX7_opens_18 : decode cX7_opens 18 = .ok (.ifCond .eq 13, 3) := by decide +kernel
theorem dX7_opens_21 : decode cX7_opens 21 = .ok (.iload_n 1, 1) := by decide +kernel
theorem dX7_opens_22 : decode cX7_opens 22 = .ok (.iconst 1, 1) := by decide +kernel
theorem dX7_opens_23 : decode cX7_opens 23 = .ok (.bipush 6, 2) := by decide +kernel
theorem dX7_opens_25 : decode cX7_opens 25 = .ok (.invokestatic 59, 3) := by decide +kernel
theorem dX7_opens_28 : decode cX7_opens 28 = .ok (.ifCond .ne 6, 3) := by decide +kernel
theorem dX7_opens_31 : decode cX7_opens 31 = .ok (.bipush (-2), 2) := by decide +kernel
theorem dX7_opens_33 : decode cX7_opens 33 = .ok (.ireturn, 1) := by decide +kernel
theorem dX7_opens_34 : decode cX7_opens 34 = .ok (.aload_n 0, 1) := by decide +kernel
theorem dX7_opens_35 : decode cX7_opens 35 = .ok (.iload_n 1, 1) := by decide +kernel
theorem dX7_opens_36 : decode cX7_opens 36 = .ok (.iload_n 2, 1) := by decide +kernel
theorem dX7_opens_37 : decode cX7_opens 37 = .ok (.iload_n 3, 1) := by decide +kernel
theorem dX7_opens_38 : decode cX7_opens 38 = .ok (.iload 4, 2) := by decide +kernel
theorem dX7_opens_40 : decode cX7_opens 40 = .ok (.invokevirtual 149, 3) := by decide +kernel
theorem dX7_opens_43 : decode cX7_opens 43 = .ok (.istore 5, 2) := by decide +kernel
theorem dX7_opens_45 : decode cX7_opens 45 = .ok (.iload 5, 2) := by decide +kernel
theorem dX7_opens_47 : decode cX7_opens 47 = .ok (.ifCond .eq 8, 3) := by decide +kernel
theorem dX7_opens_50 : decode cX7_opens 50 = .ok (.iload 5, 2) := by decide +kernel
theorem dX7_opens_52 : decode cX7_opens 52 = .ok (.goto 8, 3) := by decide +kernel
theorem dX7_opens_55 : decode cX7_opens 55 = .ok (.aload_n 0, 1) := by decide +kernel
theorem dX7_opens_56 : decode cX7_opens 56 = .ok (.iload_n 1, 1) := by decide +kernel
theorem dX7_opens_57 : decode cX7_opens 57 = .ok (.invokevirtual 152, 3) := by decide +kernel
theorem dX7_opens_60 : decode cX7_opens 60 = .ok (.ireturn, 1) := by decide +kernel
theorem dX7_felt_0 : decode cX7_felt 0 = .ok (.aload_n 0, 1) := by decide +kernel
theorem dX7_felt_1 : decode cX7_felt 1 = .ok (.iconst 0, 1) := by decide +kernel
theorem dX7_felt_2 : decode cX7_felt 2 = .ok (.putfield 53, 3) := by decide +kernel
theorem dX7_felt_5 : decode cX7_felt 5 = .ok (.iload_n 3, 1) := by decide +kernel
theorem dX7_felt_6 : decode cX7_felt 6 = .ok (.invokestatic 76, 3) := by decide +kernel
theorem dX7_felt_9 : decode cX7_felt 9 = .ok (.ifCond .ne 5, 3) := by decide +kernel
theorem dX7_felt_12 : decode cX7_felt 12 = .ok (.iconst (-1), 1) := by decide +kernel
theorem dX7_felt_13 : decode cX7_felt 13 = .ok (.ireturn, 1) := by decide +kernel
theorem dX7_felt_14 : decode cX7_felt 14 = .ok (.iload 4, 2) := by decide +kernel
theorem dX7_felt_16 : decode cX7_felt 16 = .ok (.invokestatic 79, 3) := by decide +kernel
theorem dX7_felt_19 : decode cX7_felt 19 = .ok (.ifCond .eq 24, 3) := by decide +kernel
theorem dX7_felt_22 : decode cX7_felt 22 = .ok (.iload_n 1, 1) := by decide +kernel
theorem dX7_felt_23 : decode cX7_felt 23 = .ok (.iconst 1, 1) := by decide +kernel
theorem dX7_felt_24 : decode cX7_felt 24 = .ok (.bipush 6, 2) := by decide +kernel
theorem dX7_felt_26 : decode cX7_felt 26 = .ok (.invokestatic 59, 3) := by decide +kernel
theorem dX7_felt_29 : decode cX7_felt 29 = .ok (.ifCond .eq 14, 3) := by decide +kernel
theorem dX7_felt_32 : decode cX7_felt 32 = .ok (.iload_n 2, 1) := by decide +kernel
theorem dX7_felt_33 : decode cX7_felt 33 = .ok (.iconst 0, 1) := by decide +kernel
theorem dX7_felt_34 : decode cX7_felt 34 = .ok (.iload_n 1, 1) := by decide +kernel
theorem dX7_felt_35 : decode cX7_felt 35 = .ok (.iconst 1, 1) := by decide +kernel
theorem dX7_felt_36 : decode cX7_felt 36 = .ok (.isub, 1) := by decide +kernel
theorem dX7_felt_37 : decode cX7_felt 37 = .ok (.invokestatic 59, 3) := by decide +kernel
theorem dX7_felt_40 : decode cX7_felt 40 = .ok (.ifCond .ne 6, 3) := by decide +kernel
theorem dX7_felt_43 : decode cX7_felt 43 = .ok (.bipush (-2), 2) := by decide +kernel
theorem dX7_felt_45 : decode cX7_felt 45 = .ok (.ireturn, 1) := by decide +kernel
theorem dX7_felt_46 : decode cX7_felt 46 = .ok (.aload_n 0, 1) := by decide +kernel
theorem dX7_felt_47 : decode cX7_felt 47 = .ok (.iload_n 1, 1) := by decide +kernel
theorem dX7_felt_48 : decode cX7_felt 48 = .ok (.iload_n 3, 1) := by decide +kernel
theorem dX7_felt_49 : decode cX7_felt 49 = .ok (.iload 4, 2) := by decide +kernel
theorem dX7_felt_51 : decode cX7_felt 51 = .ok (.iload 5, 2) := by decide +kernel
theorem dX7_felt_53 : decode cX7_felt 53 = .ok (.invokevirtual 149, 3) := by decide +kernel
theorem dX7_felt_56 : decode cX7_felt 56 = .ok (.istore 6, 2) := by decide +kernel
theorem dX7_felt_58 : decode cX7_felt 58 = .ok (.iload 6, 2) := by decide +kernel
theorem dX7_felt_60 : decode cX7_felt 60 = .ok (.ifCond .eq 8, 3) := by decide +kernel
theorem dX7_felt_63 : decode cX7_felt 63 = .ok (.iload 6, 2) := by decide +kernel
theorem dX7_felt_65 : decode cX7_felt 65 = .ok (.goto 8, 3) := by decide +kernel
theorem dX7_felt_68 : decode cX7_felt 68 = .ok (.aload_n 0, 1) := by decide +kernel
theorem dX7_felt_69 : decode cX7_felt 69 = .ok (.iload_n 2, 1) := by decide +kernel
theorem dX7_felt_70 : decode cX7_felt 70 = .ok (.invokevirtual 143, 3) := by decide +kernel
theorem dX7_felt_73 : decode cX7_felt 73 = .ok (.ireturn, 1) := by decide +kernel
theorem dX7_wrong_0 : decode cX7_wrong 0 = .ok (.aload_n 0, 1) := by decide +kernel
theorem dX7_wrong_1 : decode cX7_wrong 1 = .ok (.iconst 0, 1) := by decide +kernel
theorem dX7_wrong_2 : decode cX7_wrong 2 = .ok (.putfield 53, 3) := by decide +kernel
theorem dX7_wrong_5 : decode cX7_wrong 5 = .ok (.aload_n 0, 1) := by decide +kernel
theorem dX7_wrong_6 : decode cX7_wrong 6 = .ok (.iload_n 1, 1) := by decide +kernel
theorem dX7_wrong_7 : decode cX7_wrong 7 = .ok (.invokevirtual 69, 3) := by decide +kernel
theorem dX7_wrong_10 : decode cX7_wrong 10 = .ok (.ifCond .eq 10, 3) := by decide +kernel
theorem dX7_wrong_13 : decode cX7_wrong 13 = .ok (.iload_n 2, 1) := by decide +kernel
theorem dX7_wrong_14 : decode cX7_wrong 14 = .ok (.invokestatic 76, 3) := by decide +kernel
theorem dX7_wrong_17 : decode cX7_wrong 17 = .ok (.ifCond .ne 5, 3) := by decide +kernel
theorem dX7_wrong_20 : decode cX7_wrong 20 = .ok (.iconst (-1), 1) := by decide +kernel
theorem dX7_wrong_21 : decode cX7_wrong 21 = .ok (.ireturn, 1) := by decide +kernel
theorem dX7_wrong_22 : decode cX7_wrong 22 = .ok (.iload_n 3, 1) := by decide +kernel
theorem dX7_wrong_23 : decode cX7_wrong 23 = .ok (.invokestatic 79, 3) := by decide +kernel
theorem dX7_wrong_26 : decode cX7_wrong 26 = .ok (.ifCond .ne 6, 3) := by decide +kernel
theorem dX7_wrong_29 : decode cX7_wrong 29 = .ok (.bipush (-2), 2) := by decide +kernel
theorem dX7_wrong_31 : decode cX7_wrong 31 = .ok (.ireturn, 1) := by decide +kernel
theorem dX7_wrong_32 : decode cX7_wrong 32 = .ok (.aload_n 0, 1) := by decide +kernel
theorem dX7_wrong_33 : decode cX7_wrong 33 = .ok (.aload_n 0, 1) := by decide +kernel
theorem dX7_wrong_34 : decode cX7_wrong 34 = .ok (.getfield 22, 3) := by decide +kernel
theorem dX7_wrong_37 : decode cX7_wrong 37 = .ok (.iload_n 1, 1) := by decide +kernel
theorem dX7_wrong_38 : decode cX7_wrong 38 = .ok (.iaload, 1) := by decide +kernel
theorem dX7_wrong_39 : decode cX7_wrong 39 = .ok (.iload_n 2, 1) := by decide +kernel
theorem dX7_wrong_40 : decode cX7_wrong 40 = .ok (.iload_n 3, 1) := by decide +kernel
theorem dX7_wrong_41 : decode cX7_wrong 41 = .ok (.iload 4, 2) := by decide +kernel
theorem dX7_wrong_43 : decode cX7_wrong 43 = .ok (.invokevirtual 149, 3) := by decide +kernel
theorem dX7_wrong_46 : decode cX7_wrong 46 = .ok (.istore 5, 2) := by decide +kernel
theorem dX7_wrong_48 : decode cX7_wrong 48 = .ok (.iload 5, 2) := by decide +kernel
theorem dX7_wrong_50 : decode cX7_wrong 50 = .ok (.ifCond .eq 8, 3) := by decide +kernel
theorem dX7_wrong_53 : decode cX7_wrong 53 = .ok (.iload 5, 2) := by decide +kernel
theorem dX7_wrong_55 : decode cX7_wrong 55 = .ok (.goto 8, 3) := by decide +kernel
theorem dX7_wrong_58 : decode cX7_wrong 58 = .ok (.aload_n 0, 1) := by decide +kernel
theorem dX7_wrong_59 : decode cX7_wrong 59 = .ok (.iload_n 1, 1) := by decide +kernel
theorem dX7_wrong_60 : decode cX7_wrong 60 = .ok (.invokevirtual 146, 3) := by decide +kernel
theorem dX7_wrong_63 : decode cX7_wrong 63 = .ok (.ireturn, 1) := by decide +kernel
theorem dX7_limps_0 : decode cX7_limps 0 = .ok (.aload_n 0, 1) := by decide +kernel
theorem dX7_limps_1 : decode cX7_limps 1 = .ok (.getfield 139, 3) := by decide +kernel
theorem dX7_limps_4 : decode cX7_limps 4 = .ok (.ifCond .ne 23, 3) := by decide +kernel
theorem dX7_limps_7 : decode cX7_limps 7 = .ok (.iload_n 1, 1) := by decide +kernel
theorem dX7_limps_8 : decode cX7_limps 8 = .ok (.iconst 2, 1) := by decide +kernel
theorem dX7_limps_9 : decode cX7_limps 9 = .ok (.irem, 1) := by decide +kernel
theorem dX7_limps_10 : decode cX7_limps 10 = .ok (.iconst 1, 1) := by decide +kernel
theorem dX7_limps_11 : decode cX7_limps 11 = .ok (.if_icmp .ne 16, 3) := by decide +kernel
theorem dX7_limps_14 : decode cX7_limps 14 = .ok (.aload_n 0, 1) := by decide +kernel
theorem dX7_limps_15 : decode cX7_limps 15 = .ok (.getfield 37, 3) := by decide +kernel
theorem dX7_limps_18 : decode cX7_limps 18 = .ok (.iload_n 2, 1) := by decide +kernel
theorem dX7_limps_19 : decode cX7_limps 19 = .ok (.iaload, 1) := by decide +kernel
theorem dX7_limps_20 : decode cX7_limps 20 = .ok (.ifCond .le 7, 3) := by decide +kernel
theorem dX7_limps_23 : decode cX7_limps 23 = .ok (.iconst 1, 1) := by decide +kernel
theorem dX7_limps_24 : decode cX7_limps 24 = .ok (.goto 4, 3) := by decide +kernel
theorem dX7_limps_27 : decode cX7_limps 27 = .ok (.iconst 0, 1) := by decide +kernel
theorem dX7_limps_28 : decode cX7_limps 28 = .ok (.ireturn, 1) := by decide +kernel
theorem dX7_rows_0 : decode cX7_rows 0 = .ok (.iconst 1, 1) := by decide +kernel
theorem dX7_rows_1 : decode cX7_rows 1 = .ok (.istore_n 2, 1) := by decide +kernel
theorem dX7_rows_2 : decode cX7_rows 2 = .ok (.iconst 0, 1) := by decide +kernel
theorem dX7_rows_3 : decode cX7_rows 3 = .ok (.istore_n 3, 1) := by decide +kernel
theorem dX7_rows_4 : decode cX7_rows 4 = .ok (.iload_n 3, 1) := by decide +kernel
theorem dX7_rows_5 : decode cX7_rows 5 = .ok (.aload_n 0, 1) := by decide +kernel
theorem dX7_rows_6 : decode cX7_rows 6 = .ok (.getfield 103, 3) := by decide +kernel
theorem dX7_rows_9 : decode cX7_rows 9 = .ok (.if_icmp .ge 29, 3) := by decide +kernel
theorem dX7_rows_12 : decode cX7_rows 12 = .ok (.iload_n 2, 1) := by decide +kernel
theorem dX7_rows_13 : decode cX7_rows 13 = .ok (.aload_n 0, 1) := by decide +kernel
theorem dX7_rows_14 : decode cX7_rows 14 = .ok (.iload_n 1, 1) := by decide +kernel
theorem dX7_rows_15 : decode cX7_rows 15 = .ok (.iload_n 3, 1) := by decide +kernel
theorem dX7_rows_16 : decode cX7_rows 16 = .ok (.invokevirtual 136, 3) := by decide +kernel
theorem dX7_rows_19 : decode cX7_rows 19 = .ok (.ifCond .eq 7, 3) := by decide +kernel
theorem dX7_rows_22 : decode cX7_rows 22 = .ok (.iconst 1, 1) := by decide +kernel
theorem dX7_rows_23 : decode cX7_rows 23 = .ok (.goto 7, 3) := by decide +kernel
theorem dX7_rows_26 : decode cX7_rows 26 = .ok (.aload_n 0, 1) := by decide +kernel
theorem dX7_rows_27 : decode cX7_rows 27 = .ok (.getfield 63, 3) := by decide +kernel
theorem dX7_rows_30 : decode cX7_rows 30 = .ok (.imul, 1) := by decide +kernel
theorem dX7_rows_31 : decode cX7_rows 31 = .ok (.istore_n 2, 1) := by decide +kernel
theorem dX7_rows_32 : decode cX7_rows 32 = .ok (.iinc 3 1, 3) := by decide +kernel
theorem dX7_rows_35 : decode cX7_rows 35 = .ok (.goto (-31), 3) := by decide +kernel
theorem dX7_rows_38 : decode cX7_rows 38 = .ok (.iload_n 2, 1) := by decide +kernel
theorem dX7_rows_39 : decode cX7_rows 39 = .ok (.ireturn, 1) := by decide +kernel
theorem dX7_layBeat_0 : decode cX7_layBeat 0 = .ok (.iload_n 2, 1) := by decide +kernel
theorem dX7_layBeat_1 : decode cX7_layBeat 1 = .ok (.istore_n 3, 1) := by decide +kernel
theorem dX7_layBeat_2 : decode cX7_layBeat 2 = .ok (.aload_n 0, 1) := by decide +kernel
theorem dX7_layBeat_3 : decode cX7_layBeat 3 = .ok (.getfield 103, 3) := by decide +kernel
theorem dX7_layBeat_6 : decode cX7_layBeat 6 = .ok (.iconst 1, 1) := by decide +kernel
theorem dX7_layBeat_7 : decode cX7_layBeat 7 = .ok (.isub, 1) := by decide +kernel
theorem dX7_layBeat_8 : decode cX7_layBeat 8 = .ok (.istore 4, 2) := by decide +kernel
theorem dX7_layBeat_10 : decode cX7_layBeat 10 = .ok (.iload 4, 2) := by decide +kernel
theorem dX7_layBeat_12 : decode cX7_layBeat 12 = .ok (.ifCond .lt 61, 3) := by decide +kernel
theorem dX7_layBeat_15 : decode cX7_layBeat 15 = .ok (.aload_n 0, 1) := by decide +kernel
theorem dX7_layBeat_16 : decode cX7_layBeat 16 = .ok (.getfield 43, 3) := by decide +kernel
theorem dX7_layBeat_19 : decode cX7_layBeat 19 = .ok (.iconst 4, 1) := by decide +kernel
theorem dX7_layBeat_20 : decode cX7_layBeat 20 = .ok (.iload_n 1, 1) := by decide +kernel
theorem dX7_layBeat_21 : decode cX7_layBeat 21 = .ok (.imul, 1) := by decide +kernel
theorem dX7_layBeat_22 : decode cX7_layBeat 22 = .ok (.iload 4, 2) := by decide +kernel
theorem dX7_layBeat_24 : decode cX7_layBeat 24 = .ok (.iadd, 1) := by decide +kernel
theorem dX7_layBeat_25 : decode cX7_layBeat 25 = .ok (.aload_n 0, 1) := by decide +kernel
theorem dX7_layBeat_26 : decode cX7_layBeat 26 = .ok (.iload_n 1, 1) := by decide +kernel
theorem dX7_layBeat_27 : decode cX7_layBeat 27 = .ok (.iload 4, 2) := by decide +kernel
theorem dX7_layBeat_29 : decode cX7_layBeat 29 = .ok (.invokevirtual 136, 3) := by decide +kernel
theorem dX7_layBeat_32 : decode cX7_layBeat 32 = .ok (.ifCond .eq 7, 3) := by decide +kernel
theorem dX7_layBeat_35 : decode cX7_layBeat 35 = .ok (.iconst 0, 1) := by decide +kernel
theorem dX7_layBeat_36 : decode cX7_layBeat 36 = .ok (.goto 9, 3) := by decide +kernel
theorem dX7_layBeat_39 : decode cX7_layBeat 39 = .ok (.iload_n 3, 1) := by decide +kernel
theorem dX7_layBeat_40 : decode cX7_layBeat 40 = .ok (.aload_n 0, 1) := by decide +kernel
theorem dX7_layBeat_41 : decode cX7_layBeat 41 = .ok (.getfield 63, 3) := by decide +kernel
theorem dX7_layBeat_44 : decode cX7_layBeat 44 = .ok (.irem, 1) := by decide +kernel
theorem dX7_layBeat_45 : decode cX7_layBeat 45 = .ok (.iastore, 1) := by decide +kernel
theorem dX7_layBeat_46 : decode cX7_layBeat 46 = .ok (.aload_n 0, 1) := by decide +kernel
theorem dX7_layBeat_47 : decode cX7_layBeat 47 = .ok (.iload_n 1, 1) := by decide +kernel
theorem dX7_layBeat_48 : decode cX7_layBeat 48 = .ok (.iload 4, 2) := by decide +kernel
theorem dX7_layBeat_50 : decode cX7_layBeat 50 = .ok (.invokevirtual 136, 3) := by decide +kernel
theorem dX7_layBeat_53 : decode cX7_layBeat 53 = .ok (.ifCond .eq 7, 3) := by decide +kernel
theorem dX7_layBeat_56 : decode cX7_layBeat 56 = .ok (.iload_n 3, 1) := by decide +kernel
theorem dX7_layBeat_57 : decode cX7_layBeat 57 = .ok (.goto 9, 3) := by decide +kernel
theorem dX7_layBeat_60 : decode cX7_layBeat 60 = .ok (.iload_n 3, 1) := by decide +kernel
theorem dX7_layBeat_61 : decode cX7_layBeat 61 = .ok (.aload_n 0, 1) := by decide +kernel
theorem dX7_layBeat_62 : decode cX7_layBeat 62 = .ok (.getfield 63, 3) := by decide +kernel
theorem dX7_layBeat_65 : decode cX7_layBeat 65 = .ok (.idiv, 1) := by decide +kernel
theorem dX7_layBeat_66 : decode cX7_layBeat 66 = .ok (.istore_n 3, 1) := by decide +kernel
theorem dX7_layBeat_67 : decode cX7_layBeat 67 = .ok (.iinc 4 (-1), 3) := by decide +kernel
theorem dX7_layBeat_70 : decode cX7_layBeat 70 = .ok (.goto (-60), 3) := by decide +kernel
theorem dX7_layBeat_73 : decode cX7_layBeat 73 = .ok (.return_, 1) := by decide +kernel
theorem dX7_nextRow_0 : decode cX7_nextRow 0 = .ok (.aload_n 0, 1) := by decide +kernel
theorem dX7_nextRow_1 : decode cX7_nextRow 1 = .ok (.iload_n 2, 1) := by decide +kernel
theorem dX7_nextRow_2 : decode cX7_nextRow 2 = .ok (.invokevirtual 155, 3) := by decide +kernel
theorem dX7_nextRow_5 : decode cX7_nextRow 5 = .ok (.istore 4, 2) := by decide +kernel
theorem dX7_nextRow_7 : decode cX7_nextRow 7 = .ok (.iload_n 3, 1) := by decide +kernel
theorem dX7_nextRow_8 : decode cX7_nextRow 8 = .ok (.istore 5, 2) := by decide +kernel
theorem dX7_nextRow_10 : decode cX7_nextRow 10 = .ok (.iload 5, 2) := by decide +kernel
theorem dX7_nextRow_12 : decode cX7_nextRow 12 = .ok (.iload 4, 2) := by decide +kernel
theorem dX7_nextRow_14 : decode cX7_nextRow 14 = .ok (.if_icmp .ge 37, 3) := by decide +kernel
theorem dX7_nextRow_17 : decode cX7_nextRow 17 = .ok (.aload_n 0, 1) := by decide +kernel
theorem dX7_nextRow_18 : decode cX7_nextRow 18 = .ok (.iload_n 2, 1) := by decide +kernel
theorem dX7_nextRow_19 : decode cX7_nextRow 19 = .ok (.iload 5, 2) := by decide +kernel
theorem dX7_nextRow_21 : decode cX7_nextRow 21 = .ok (.invokevirtual 158, 3) := by decide +kernel
theorem dX7_nextRow_24 : decode cX7_nextRow 24 = .ok (.aload_n 0, 1) := by decide +kernel
theorem dX7_nextRow_25 : decode cX7_nextRow 25 = .ok (.iload_n 2, 1) := by decide +kernel
theorem dX7_nextRow_26 : decode cX7_nextRow 26 = .ok (.invokevirtual 143, 3) := by decide +kernel
theorem dX7_nextRow_29 : decode cX7_nextRow 29 = .ok (.aload_n 0, 1) := by decide +kernel
theorem dX7_nextRow_30 : decode cX7_nextRow 30 = .ok (.getfield 25, 3) := by decide +kernel
theorem dX7_nextRow_33 : decode cX7_nextRow 33 = .ok (.iload_n 1, 1) := by decide +kernel
theorem dX7_nextRow_34 : decode cX7_nextRow 34 = .ok (.iload_n 2, 1) := by decide +kernel
theorem dX7_nextRow_35 : decode cX7_nextRow 35 = .ok (.invokestatic 99, 3) := by decide +kernel
theorem dX7_nextRow_38 : decode cX7_nextRow 38 = .ok (.iaload, 1) := by decide +kernel
theorem dX7_nextRow_39 : decode cX7_nextRow 39 = .ok (.if_icmp .ne 6, 3) := by decide +kernel
theorem dX7_nextRow_42 : decode cX7_nextRow 42 = .ok (.iload 5, 2) := by decide +kernel
theorem dX7_nextRow_44 : decode cX7_nextRow 44 = .ok (.ireturn, 1) := by decide +kernel
theorem dX7_nextRow_45 : decode cX7_nextRow 45 = .ok (.iinc 5 1, 3) := by decide +kernel
theorem dX7_nextRow_48 : decode cX7_nextRow 48 = .ok (.goto (-38), 3) := by decide +kernel
theorem dX7_nextRow_51 : decode cX7_nextRow 51 = .ok (.bipush (-9), 2) := by decide +kernel
theorem dX7_nextRow_53 : decode cX7_nextRow 53 = .ok (.ireturn, 1) := by decide +kernel
theorem dX7_limpedFrom_0 : decode cX7_limpedFrom 0 = .ok (.iconst 0, 1) := by decide +kernel
theorem dX7_limpedFrom_1 : decode cX7_limpedFrom 1 = .ok (.istore_n 2, 1) := by decide +kernel
theorem dX7_limpedFrom_2 : decode cX7_limpedFrom 2 = .ok (.iconst 0, 1) := by decide +kernel
theorem dX7_limpedFrom_3 : decode cX7_limpedFrom 3 = .ok (.istore_n 3, 1) := by decide +kernel
theorem dX7_limpedFrom_4 : decode cX7_limpedFrom 4 = .ok (.iload_n 3, 1) := by decide +kernel
theorem dX7_limpedFrom_5 : decode cX7_limpedFrom 5 = .ok (.aload_n 0, 1) := by decide +kernel
theorem dX7_limpedFrom_6 : decode cX7_limpedFrom 6 = .ok (.getfield 103, 3) := by decide +kernel
theorem dX7_limpedFrom_9 : decode cX7_limpedFrom 9 = .ok (.if_icmp .ge 42, 3) := by decide +kernel
theorem dX7_limpedFrom_12 : decode cX7_limpedFrom 12 = .ok (.aload_n 0, 1) := by decide +kernel
theorem dX7_limpedFrom_13 : decode cX7_limpedFrom 13 = .ok (.iload_n 1, 1) := by decide +kernel
theorem dX7_limpedFrom_14 : decode cX7_limpedFrom 14 = .ok (.iconst 1, 1) := by decide +kernel
theorem dX7_limpedFrom_15 : decode cX7_limpedFrom 15 = .ok (.iadd, 1) := by decide +kernel
theorem dX7_limpedFrom_16 : decode cX7_limpedFrom 16 = .ok (.iload_n 3, 1) := by decide +kernel
theorem dX7_limpedFrom_17 : decode cX7_limpedFrom 17 = .ok (.invokevirtual 136, 3) := by decide +kernel
theorem dX7_limpedFrom_20 : decode cX7_limpedFrom 20 = .ok (.ifCond .eq 23, 3) := by decide +kernel
theorem dX7_limpedFrom_23 : decode cX7_limpedFrom 23 = .ok (.aload_n 0, 1) := by decide +kernel
theorem dX7_limpedFrom_24 : decode cX7_limpedFrom 24 = .ok (.getfield 63, 3) := by decide +kernel
theorem dX7_limpedFrom_27 : decode cX7_limpedFrom 27 = .ok (.iload_n 2, 1) := by decide +kernel
theorem dX7_limpedFrom_28 : decode cX7_limpedFrom 28 = .ok (.imul, 1) := by decide +kernel
theorem dX7_limpedFrom_29 : decode cX7_limpedFrom 29 = .ok (.aload_n 0, 1) := by decide +kernel
theorem dX7_limpedFrom_30 : decode cX7_limpedFrom 30 = .ok (.getfield 43, 3) := by decide +kernel
theorem dX7_limpedFrom_33 : decode cX7_limpedFrom 33 = .ok (.iconst 4, 1) := by decide +kernel
theorem dX7_limpedFrom_34 : decode cX7_limpedFrom 34 = .ok (.iload_n 1, 1) := by decide +kernel
theorem dX7_limpedFrom_35 : decode cX7_limpedFrom 35 = .ok (.imul, 1) := by decide +kernel
theorem dX7_limpedFrom_36 : decode cX7_limpedFrom 36 = .ok (.iload_n 3, 1) := by decide +kernel
theorem dX7_limpedFrom_37 : decode cX7_limpedFrom 37 = .ok (.iadd, 1) := by decide +kernel
theorem dX7_limpedFrom_38 : decode cX7_limpedFrom 38 = .ok (.iaload, 1) := by decide +kernel
theorem dX7_limpedFrom_39 : decode cX7_limpedFrom 39 = .ok (.iadd, 1) := by decide +kernel
theorem dX7_limpedFrom_40 : decode cX7_limpedFrom 40 = .ok (.goto 4, 3) := by decide +kernel
theorem dX7_limpedFrom_43 : decode cX7_limpedFrom 43 = .ok (.iload_n 2, 1) := by decide +kernel
theorem dX7_limpedFrom_44 : decode cX7_limpedFrom 44 = .ok (.istore_n 2, 1) := by decide +kernel
theorem dX7_limpedFrom_45 : decode cX7_limpedFrom 45 = .ok (.iinc 3 1, 3) := by decide +kernel
theorem dX7_limpedFrom_48 : decode cX7_limpedFrom 48 = .ok (.goto (-44), 3) := by decide +kernel
theorem dX7_limpedFrom_51 : decode cX7_limpedFrom 51 = .ok (.iload_n 2, 1) := by decide +kernel
theorem dX7_limpedFrom_52 : decode cX7_limpedFrom 52 = .ok (.ireturn, 1) := by decide +kernel
theorem dX7_findTwo_0 : decode cX7_findTwo 0 = .ok (.iconst 0, 1) := by decide +kernel
theorem dX7_findTwo_1 : decode cX7_findTwo 1 = .ok (.istore_n 3, 1) := by decide +kernel
theorem dX7_findTwo_2 : decode cX7_findTwo 2 = .ok (.iload_n 3, 1) := by decide +kernel
theorem dX7_findTwo_3 : decode cX7_findTwo 3 = .ok (.sipush 2401, 3) := by decide +kernel
theorem dX7_findTwo_6 : decode cX7_findTwo 6 = .ok (.if_icmp .ge 16, 3) := by decide +kernel
theorem dX7_findTwo_9 : decode cX7_findTwo 9 = .ok (.aload_n 0, 1) := by decide +kernel
theorem dX7_findTwo_10 : decode cX7_findTwo 10 = .ok (.getfield 46, 3) := by decide +kernel
theorem dX7_findTwo_13 : decode cX7_findTwo 13 = .ok (.iload_n 3, 1) := by decide +kernel
theorem dX7_findTwo_14 : decode cX7_findTwo 14 = .ok (.iconst 0, 1) := by decide +kernel
theorem dX7_findTwo_15 : decode cX7_findTwo 15 = .ok (.bastore, 1) := by decide +kernel
theorem dX7_findTwo_16 : decode cX7_findTwo 16 = .ok (.iinc 3 1, 3) := by decide +kernel
theorem dX7_findTwo_19 : decode cX7_findTwo 19 = .ok (.goto (-17), 3) := by decide +kernel
theorem dX7_findTwo_22 : decode cX7_findTwo 22 = .ok (.aload_n 0, 1) := by decide +kernel
theorem dX7_findTwo_23 : decode cX7_findTwo 23 = .ok (.iload_n 1, 1) := by decide +kernel
theorem dX7_findTwo_24 : decode cX7_findTwo 24 = .ok (.iload_n 2, 1) := by decide +kernel
theorem dX7_findTwo_25 : decode cX7_findTwo 25 = .ok (.iconst 0, 1) := by decide +kernel
theorem dX7_findTwo_26 : decode cX7_findTwo 26 = .ok (.invokevirtual 162, 3) := by decide +kernel
theorem dX7_findTwo_29 : decode cX7_findTwo 29 = .ok (.istore_n 3, 1) := by decide +kernel
theorem dX7_findTwo_30 : decode cX7_findTwo 30 = .ok (.iload_n 3, 1) := by decide +kernel
theorem dX7_findTwo_31 : decode cX7_findTwo 31 = .ok (.bipush (-9), 2) := by decide +kernel
theorem dX7_findTwo_33 : decode cX7_findTwo 33 = .ok (.if_icmp .eq 71, 3) := by decide +kernel
theorem dX7_findTwo_36 : decode cX7_findTwo 36 = .ok (.iload_n 2, 1) := by decide +kernel
theorem dX7_findTwo_37 : decode cX7_findTwo 37 = .ok (.iconst 1, 1) := by decide +kernel
theorem dX7_findTwo_38 : decode cX7_findTwo 38 = .ok (.iadd, 1) := by decide +kernel
theorem dX7_findTwo_39 : decode cX7_findTwo 39 = .ok (.aload_n 0, 1) := by decide +kernel
theorem dX7_findTwo_40 : decode cX7_findTwo 40 = .ok (.getfield 22, 3) := by decide +kernel
theorem dX7_findTwo_43 : decode cX7_findTwo 43 = .ok (.iload_n 1, 1) := by decide +kernel
theorem dX7_findTwo_44 : decode cX7_findTwo 44 = .ok (.iaload, 1) := by decide +kernel
theorem dX7_findTwo_45 : decode cX7_findTwo 45 = .ok (.if_icmp .ne 5, 3) := by decide +kernel
theorem dX7_findTwo_48 : decode cX7_findTwo 48 = .ok (.iconst 1, 1) := by decide +kernel
theorem dX7_findTwo_49 : decode cX7_findTwo 49 = .ok (.ireturn, 1) := by decide +kernel
theorem dX7_findTwo_50 : decode cX7_findTwo 50 = .ok (.aload_n 0, 1) := by decide +kernel
theorem dX7_findTwo_51 : decode cX7_findTwo 51 = .ok (.iload_n 2, 1) := by decide +kernel
theorem dX7_findTwo_52 : decode cX7_findTwo 52 = .ok (.invokevirtual 165, 3) := by decide +kernel
theorem dX7_findTwo_55 : decode cX7_findTwo 55 = .ok (.istore 4, 2) := by decide +kernel
theorem dX7_findTwo_57 : decode cX7_findTwo 57 = .ok (.aload_n 0, 1) := by decide +kernel
theorem dX7_findTwo_58 : decode cX7_findTwo 58 = .ok (.getfield 46, 3) := by decide +kernel
theorem dX7_findTwo_61 : decode cX7_findTwo 61 = .ok (.iload 4, 2) := by decide +kernel
theorem dX7_findTwo_63 : decode cX7_findTwo 63 = .ok (.baload, 1) := by decide +kernel
theorem dX7_findTwo_64 : decode cX7_findTwo 64 = .ok (.ifCond .ne 19, 3) := by decide +kernel
theorem dX7_findTwo_67 : decode cX7_findTwo 67 = .ok (.aload_n 0, 1) := by decide +kernel
theorem dX7_findTwo_68 : decode cX7_findTwo 68 = .ok (.iload_n 1, 1) := by decide +kernel
theorem dX7_findTwo_69 : decode cX7_findTwo 69 = .ok (.iload_n 2, 1) := by decide +kernel
theorem dX7_findTwo_70 : decode cX7_findTwo 70 = .ok (.iconst 1, 1) := by decide +kernel
theorem dX7_findTwo_71 : decode cX7_findTwo 71 = .ok (.iadd, 1) := by decide +kernel
theorem dX7_findTwo_72 : decode cX7_findTwo 72 = .ok (.iconst 0, 1) := by decide +kernel
theorem dX7_findTwo_73 : decode cX7_findTwo 73 = .ok (.invokevirtual 162, 3) := by decide +kernel
theorem dX7_findTwo_76 : decode cX7_findTwo 76 = .ok (.bipush (-9), 2) := by decide +kernel
theorem dX7_findTwo_78 : decode cX7_findTwo 78 = .ok (.if_icmp .eq 5, 3) := by decide +kernel
theorem dX7_findTwo_81 : decode cX7_findTwo 81 = .ok (.iconst 1, 1) := by decide +kernel
theorem dX7_findTwo_82 : decode cX7_findTwo 82 = .ok (.ireturn, 1) := by decide +kernel
theorem dX7_findTwo_83 : decode cX7_findTwo 83 = .ok (.aload_n 0, 1) := by decide +kernel
theorem dX7_findTwo_84 : decode cX7_findTwo 84 = .ok (.getfield 46, 3) := by decide +kernel
theorem dX7_findTwo_87 : decode cX7_findTwo 87 = .ok (.iload 4, 2) := by decide +kernel
theorem dX7_findTwo_89 : decode cX7_findTwo 89 = .ok (.iconst 1, 1) := by decide +kernel
theorem dX7_findTwo_90 : decode cX7_findTwo 90 = .ok (.bastore, 1) := by decide +kernel
theorem dX7_findTwo_91 : decode cX7_findTwo 91 = .ok (.aload_n 0, 1) := by decide +kernel
theorem dX7_findTwo_92 : decode cX7_findTwo 92 = .ok (.iload_n 1, 1) := by decide +kernel
theorem dX7_findTwo_93 : decode cX7_findTwo 93 = .ok (.iload_n 2, 1) := by decide +kernel
theorem dX7_findTwo_94 : decode cX7_findTwo 94 = .ok (.iload_n 3, 1) := by decide +kernel
theorem dX7_findTwo_95 : decode cX7_findTwo 95 = .ok (.iconst 1, 1) := by decide +kernel
theorem dX7_findTwo_96 : decode cX7_findTwo 96 = .ok (.iadd, 1) := by decide +kernel
theorem dX7_findTwo_97 : decode cX7_findTwo 97 = .ok (.invokevirtual 162, 3) := by decide +kernel
theorem dX7_findTwo_100 : decode cX7_findTwo 100 = .ok (.istore_n 3, 1) := by decide +kernel
theorem dX7_findTwo_101 : decode cX7_findTwo 101 = .ok (.goto (-71), 3) := by decide +kernel
theorem dX7_findTwo_104 : decode cX7_findTwo 104 = .ok (.iconst 0, 1) := by decide +kernel
theorem dX7_findTwo_105 : decode cX7_findTwo 105 = .ok (.ireturn, 1) := by decide +kernel
theorem dX7_findPlan_0 : decode cX7_findPlan 0 = .ok (.iconst 0, 1) := by decide +kernel
theorem dX7_findPlan_1 : decode cX7_findPlan 1 = .ok (.istore_n 2, 1) := by decide +kernel
theorem dX7_findPlan_2 : decode cX7_findPlan 2 = .ok (.iload_n 2, 1) := by decide +kernel
theorem dX7_findPlan_3 : decode cX7_findPlan 3 = .ok (.aload_n 0, 1) := by decide +kernel
theorem dX7_findPlan_4 : decode cX7_findPlan 4 = .ok (.getfield 22, 3) := by decide +kernel
theorem dX7_findPlan_7 : decode cX7_findPlan 7 = .ok (.iload_n 1, 1) := by decide +kernel
theorem dX7_findPlan_8 : decode cX7_findPlan 8 = .ok (.iaload, 1) := by decide +kernel
theorem dX7_findPlan_9 : decode cX7_findPlan 9 = .ok (.if_icmp .ge 20, 3) := by decide +kernel
theorem dX7_findPlan_12 : decode cX7_findPlan 12 = .ok (.aload_n 0, 1) := by decide +kernel
theorem dX7_findPlan_13 : decode cX7_findPlan 13 = .ok (.iload_n 1, 1) := by decide +kernel
theorem dX7_findPlan_14 : decode cX7_findPlan 14 = .ok (.iload_n 2, 1) := by decide +kernel
theorem dX7_findPlan_15 : decode cX7_findPlan 15 = .ok (.invokevirtual 168, 3) := by decide +kernel
theorem dX7_findPlan_18 : decode cX7_findPlan 18 = .ok (.ifCond .ne 5, 3) := by decide +kernel
theorem dX7_findPlan_21 : decode cX7_findPlan 21 = .ok (.iconst 0, 1) := by decide +kernel
theorem dX7_findPlan_22 : decode cX7_findPlan 22 = .ok (.ireturn, 1) := by decide +kernel
theorem dX7_findPlan_23 : decode cX7_findPlan 23 = .ok (.iinc 2 2, 3) := by decide +kernel
theorem dX7_findPlan_26 : decode cX7_findPlan 26 = .ok (.goto (-24), 3) := by decide +kernel
theorem dX7_findPlan_29 : decode cX7_findPlan 29 = .ok (.iconst 1, 1) := by decide +kernel
theorem dX7_findPlan_30 : decode cX7_findPlan 30 = .ok (.ireturn, 1) := by decide +kernel
theorem dX7_can_0 : decode cX7_can 0 = .ok (.aload_n 0, 1) := by decide +kernel
theorem dX7_can_1 : decode cX7_can 1 = .ok (.iload_n 1, 1) := by decide +kernel
theorem dX7_can_2 : decode cX7_can 2 = .ok (.invokevirtual 69, 3) := by decide +kernel
theorem dX7_can_5 : decode cX7_can 5 = .ok (.ifCond .ne 5, 3) := by decide +kernel
theorem dX7_can_8 : decode cX7_can 8 = .ok (.iconst (-1), 1) := by decide +kernel
theorem dX7_can_9 : decode cX7_can 9 = .ok (.ireturn, 1) := by decide +kernel
theorem dX7_can_10 : decode cX7_can 10 = .ok (.aload_n 0, 1) := by decide +kernel
theorem dX7_can_11 : decode cX7_can 11 = .ok (.iload_n 1, 1) := by decide +kernel
theorem dX7_can_12 : decode cX7_can 12 = .ok (.invokevirtual 171, 3) := by decide +kernel
theorem dX7_can_15 : decode cX7_can 15 = .ok (.ifCond .eq 7, 3) := by decide +kernel
theorem dX7_can_18 : decode cX7_can 18 = .ok (.iconst 1, 1) := by decide +kernel
theorem dX7_can_19 : decode cX7_can 19 = .ok (.goto 4, 3) := by decide +kernel
theorem dX7_can_22 : decode cX7_can 22 = .ok (.iconst 0, 1) := by decide +kernel
theorem dX7_can_23 : decode cX7_can 23 = .ok (.ireturn, 1) := by decide +kernel
theorem dX7_plan_0 : decode cX7_plan 0 = .ok (.aload_n 0, 1) := by decide +kernel
theorem dX7_plan_1 : decode cX7_plan 1 = .ok (.iload_n 1, 1) := by decide +kernel
theorem dX7_plan_2 : decode cX7_plan 2 = .ok (.iload_n 2, 1) := by decide +kernel
theorem dX7_plan_3 : decode cX7_plan 3 = .ok (.invokevirtual 123, 3) := by decide +kernel
theorem dX7_plan_6 : decode cX7_plan 6 = .ok (.ifCond .eq 11, 3) := by decide +kernel
theorem dX7_plan_9 : decode cX7_plan 9 = .ok (.aload_n 0, 1) := by decide +kernel
theorem dX7_plan_10 : decode cX7_plan 10 = .ok (.iload_n 3, 1) := by decide +kernel
theorem dX7_plan_11 : decode cX7_plan 11 = .ok (.invokevirtual 130, 3) := by decide +kernel
theorem dX7_plan_14 : decode cX7_plan 14 = .ok (.ifCond .ne 5, 3) := by decide +kernel
theorem dX7_plan_17 : decode cX7_plan 17 = .ok (.iconst (-1), 1) := by decide +kernel
theorem dX7_plan_18 : decode cX7_plan 18 = .ok (.ireturn, 1) := by decide +kernel
theorem dX7_plan_19 : decode cX7_plan 19 = .ok (.aload_n 0, 1) := by decide +kernel
theorem dX7_plan_20 : decode cX7_plan 20 = .ok (.iload_n 1, 1) := by decide +kernel
theorem dX7_plan_21 : decode cX7_plan 21 = .ok (.invokevirtual 171, 3) := by decide +kernel
theorem dX7_plan_24 : decode cX7_plan 24 = .ok (.ifCond .eq 16, 3) := by decide +kernel
theorem dX7_plan_27 : decode cX7_plan 27 = .ok (.aload_n 0, 1) := by decide +kernel
theorem dX7_plan_28 : decode cX7_plan 28 = .ok (.getfield 43, 3) := by decide +kernel
theorem dX7_plan_31 : decode cX7_plan 31 = .ok (.iconst 4, 1) := by decide +kernel
theorem dX7_plan_32 : decode cX7_plan 32 = .ok (.iload_n 2, 1) := by decide +kernel
theorem dX7_plan_33 : decode cX7_plan 33 = .ok (.imul, 1) := by decide +kernel
theorem dX7_plan_34 : decode cX7_plan 34 = .ok (.iload_n 3, 1) := by decide +kernel
theorem dX7_plan_35 : decode cX7_plan 35 = .ok (.iadd, 1) := by decide +kernel
theorem dX7_plan_36 : decode cX7_plan 36 = .ok (.iaload, 1) := by decide +kernel
theorem dX7_plan_37 : decode cX7_plan 37 = .ok (.goto 5, 3) := by decide +kernel
theorem dX7_plan_40 : decode cX7_plan 40 = .ok (.bipush (-9), 2) := by decide +kernel
theorem dX7_plan_42 : decode cX7_plan 42 = .ok (.ireturn, 1) := by decide +kernel
theorem dX7_limped_0 : decode cX7_limped 0 = .ok (.aload_n 0, 1) := by decide +kernel
theorem dX7_limped_1 : decode cX7_limped 1 = .ok (.iload_n 1, 1) := by decide +kernel
theorem dX7_limped_2 : decode cX7_limped 2 = .ok (.invokevirtual 69, 3) := by decide +kernel
theorem dX7_limped_5 : decode cX7_limped 5 = .ok (.ifCond .ne 5, 3) := by decide +kernel
theorem dX7_limped_8 : decode cX7_limped 8 = .ok (.iconst (-1), 1) := by decide +kernel
theorem dX7_limped_9 : decode cX7_limped 9 = .ok (.ireturn, 1) := by decide +kernel
theorem dX7_limped_10 : decode cX7_limped 10 = .ok (.aload_n 0, 1) := by decide +kernel
theorem dX7_limped_11 : decode cX7_limped 11 = .ok (.iconst 1, 1) := by decide +kernel
theorem dX7_limped_12 : decode cX7_limped 12 = .ok (.putfield 139, 3) := by decide +kernel
theorem dX7_limped_15 : decode cX7_limped 15 = .ok (.aload_n 0, 1) := by decide +kernel
theorem dX7_limped_16 : decode cX7_limped 16 = .ok (.iload_n 1, 1) := by decide +kernel
theorem dX7_limped_17 : decode cX7_limped 17 = .ok (.invokevirtual 171, 3) := by decide +kernel
theorem dX7_limped_20 : decode cX7_limped 20 = .ok (.istore_n 2, 1) := by decide +kernel
theorem dX7_limped_21 : decode cX7_limped 21 = .ok (.aload_n 0, 1) := by decide +kernel
theorem dX7_limped_22 : decode cX7_limped 22 = .ok (.iconst 0, 1) := by decide +kernel
theorem dX7_limped_23 : decode cX7_limped 23 = .ok (.putfield 139, 3) := by decide +kernel
theorem dX7_limped_26 : decode cX7_limped 26 = .ok (.iload_n 2, 1) := by decide +kernel
theorem dX7_limped_27 : decode cX7_limped 27 = .ok (.ifCond .eq 16, 3) := by decide +kernel
theorem dX7_limped_30 : decode cX7_limped 30 = .ok (.aload_n 0, 1) := by decide +kernel
theorem dX7_limped_31 : decode cX7_limped 31 = .ok (.aload_n 0, 1) := by decide +kernel
theorem dX7_limped_32 : decode cX7_limped 32 = .ok (.getfield 22, 3) := by decide +kernel
theorem dX7_limped_35 : decode cX7_limped 35 = .ok (.iload_n 1, 1) := by decide +kernel
theorem dX7_limped_36 : decode cX7_limped 36 = .ok (.iaload, 1) := by decide +kernel
theorem dX7_limped_37 : decode cX7_limped 37 = .ok (.invokevirtual 152, 3) := by decide +kernel
theorem dX7_limped_40 : decode cX7_limped 40 = .ok (.goto 5, 3) := by decide +kernel
theorem dX7_limped_43 : decode cX7_limped 43 = .ok (.bipush (-3), 2) := by decide +kernel
theorem dX7_limped_45 : decode cX7_limped 45 = .ok (.ireturn, 1) := by decide +kernel
theorem dX7_plans_0 : decode cX7_plans 0 = .ok (.aload_n 0, 1) := by decide +kernel
theorem dX7_plans_1 : decode cX7_plans 1 = .ok (.iload_n 1, 1) := by decide +kernel
theorem dX7_plans_2 : decode cX7_plans 2 = .ok (.iload_n 2, 1) := by decide +kernel
theorem dX7_plans_3 : decode cX7_plans 3 = .ok (.invokevirtual 123, 3) := by decide +kernel
theorem dX7_plans_6 : decode cX7_plans 6 = .ok (.ifCond .ne 7, 3) := by decide +kernel
theorem dX7_plans_9 : decode cX7_plans 9 = .ok (.ldc2_w 57, 3) := by decide +kernel
theorem dX7_plans_12 : decode cX7_plans 12 = .ok (.lreturn, 1) := by decide +kernel
theorem dX7_plans_13 : decode cX7_plans 13 = .ok (.lconst 0, 1) := by decide +kernel
theorem dX7_plans_14 : decode cX7_plans 14 = .ok (.lstore_n 3, 1) := by decide +kernel
theorem dX7_plans_15 : decode cX7_plans 15 = .ok (.aload_n 0, 1) := by decide +kernel
theorem dX7_plans_16 : decode cX7_plans 16 = .ok (.iconst 0, 1) := by decide +kernel
theorem dX7_plans_17 : decode cX7_plans 17 = .ok (.invokevirtual 155, 3) := by decide +kernel
theorem dX7_plans_20 : decode cX7_plans 20 = .ok (.istore 5, 2) := by decide +kernel
theorem dX7_plans_22 : decode cX7_plans 22 = .ok (.iconst 0, 1) := by decide +kernel
theorem dX7_plans_23 : decode cX7_plans 23 = .ok (.istore 6, 2) := by decide +kernel
theorem dX7_plans_25 : decode cX7_plans 25 = .ok (.iload 6, 2) := by decide +kernel
theorem dX7_plans_27 : decode cX7_plans 27 = .ok (.iload 5, 2) := by decide +kernel
theorem dX7_plans_29 : decode cX7_plans 29 = .ok (.if_icmp .ge 42, 3) := by decide +kernel
theorem dX7_plans_32 : decode cX7_plans 32 = .ok (.aload_n 0, 1) := by decide +kernel
theorem dX7_plans_33 : decode cX7_plans 33 = .ok (.iconst 0, 1) := by decide +kernel
theorem dX7_plans_34 : decode cX7_plans 34 = .ok (.iload 6, 2) := by decide +kernel
theorem dX7_plans_36 : decode cX7_plans 36 = .ok (.invokevirtual 158, 3) := by decide +kernel
theorem dX7_plans_39 : decode cX7_plans 39 = .ok (.lload_n 3, 1) := by decide +kernel
theorem dX7_plans_40 : decode cX7_plans 40 = .ok (.aload_n 0, 1) := by decide +kernel
theorem dX7_plans_41 : decode cX7_plans 41 = .ok (.iconst 0, 1) := by decide +kernel
theorem dX7_plans_42 : decode cX7_plans 42 = .ok (.invokevirtual 143, 3) := by decide +kernel
theorem dX7_plans_45 : decode cX7_plans 45 = .ok (.aload_n 0, 1) := by decide +kernel
theorem dX7_plans_46 : decode cX7_plans 46 = .ok (.getfield 25, 3) := by decide +kernel
theorem dX7_plans_49 : decode cX7_plans 49 = .ok (.iload_n 1, 1) := by decide +kernel
theorem dX7_plans_50 : decode cX7_plans 50 = .ok (.iload_n 2, 1) := by decide +kernel
theorem dX7_plans_51 : decode cX7_plans 51 = .ok (.invokestatic 99, 3) := by decide +kernel
theorem dX7_plans_54 : decode cX7_plans 54 = .ok (.iaload, 1) := by decide +kernel
theorem dX7_plans_55 : decode cX7_plans 55 = .ok (.if_icmp .ne 7, 3) := by decide +kernel
theorem dX7_plans_58 : decode cX7_plans 58 = .ok (.lconst 1, 1) := by decide +kernel
theorem dX7_plans_59 : decode cX7_plans 59 = .ok (.goto 4, 3) := by decide +kernel
theorem dX7_plans_62 : decode cX7_plans 62 = .ok (.lconst 0, 1) := by decide +kernel
theorem dX7_plans_63 : decode cX7_plans 63 = .ok (.ladd, 1) := by decide +kernel
theorem dX7_plans_64 : decode cX7_plans 64 = .ok (.lstore_n 3, 1) := by decide +kernel
theorem dX7_plans_65 : decode cX7_plans 65 = .ok (.iinc 6 1, 3) := by decide +kernel
theorem dX7_plans_68 : decode cX7_plans 68 = .ok (.goto (-43), 3) := by decide +kernel
theorem dX7_plans_71 : decode cX7_plans 71 = .ok (.lload_n 3, 1) := by decide +kernel
theorem dX7_plans_72 : decode cX7_plans 72 = .ok (.lreturn, 1) := by decide +kernel
theorem dX7_allBars_0 : decode cX7_allBars 0 = .ok (.iconst 0, 1) := by decide +kernel
theorem dX7_allBars_1 : decode cX7_allBars 1 = .ok (.istore_n 1, 1) := by decide +kernel
theorem dX7_allBars_2 : decode cX7_allBars 2 = .ok (.iconst 0, 1) := by decide +kernel
theorem dX7_allBars_3 : decode cX7_allBars 3 = .ok (.istore_n 2, 1) := by decide +kernel
theorem dX7_allBars_4 : decode cX7_allBars 4 = .ok (.iload_n 2, 1) := by decide +kernel
theorem dX7_allBars_5 : decode cX7_allBars 5 = .ok (.aload_n 0, 1) := by decide +kernel
theorem dX7_allBars_6 : decode cX7_allBars 6 = .ok (.getfield 66, 3) := by decide +kernel
theorem dX7_allBars_9 : decode cX7_allBars 9 = .ok (.if_icmp .ge 17, 3) := by decide +kernel
theorem dX7_allBars_12 : decode cX7_allBars 12 = .ok (.iload_n 1, 1) := by decide +kernel
theorem dX7_allBars_13 : decode cX7_allBars 13 = .ok (.aload_n 0, 1) := by decide +kernel
theorem dX7_allBars_14 : decode cX7_allBars 14 = .ok (.iload_n 2, 1) := by decide +kernel
theorem dX7_allBars_15 : decode cX7_allBars 15 = .ok (.invokevirtual 174, 3) := by decide +kernel
theorem dX7_allBars_18 : decode cX7_allBars 18 = .ok (.ior, 1) := by decide +kernel
theorem dX7_allBars_19 : decode cX7_allBars 19 = .ok (.istore_n 1, 1) := by decide +kernel
theorem dX7_allBars_20 : decode cX7_allBars 20 = .ok (.iinc 2 1, 3) := by decide +kernel
theorem dX7_allBars_23 : decode cX7_allBars 23 = .ok (.goto (-19), 3) := by decide +kernel
theorem dX7_allBars_26 : decode cX7_allBars 26 = .ok (.iload_n 1, 1) := by decide +kernel
theorem dX7_allBars_27 : decode cX7_allBars 27 = .ok (.ireturn, 1) := by decide +kernel
theorem dX7_barsOf_0 : decode cX7_barsOf 0 = .ok (.iconst 1, 1) := by decide +kernel
theorem dX7_barsOf_1 : decode cX7_barsOf 1 = .ok (.aload_n 0, 1) := by decide +kernel
theorem dX7_barsOf_2 : decode cX7_barsOf 2 = .ok (.getfield 22, 3) := by decide +kernel
theorem dX7_barsOf_5 : decode cX7_barsOf 5 = .ok (.iload_n 1, 1) := by decide +kernel
theorem dX7_barsOf_6 : decode cX7_barsOf 6 = .ok (.iaload, 1) := by decide +kernel
theorem dX7_barsOf_7 : decode cX7_barsOf 7 = .ok (.ishl, 1) := by decide +kernel
theorem dX7_barsOf_8 : decode cX7_barsOf 8 = .ok (.iconst 1, 1) := by decide +kernel
theorem dX7_barsOf_9 : decode cX7_barsOf 9 = .ok (.isub, 1) := by decide +kernel
theorem dX7_barsOf_10 : decode cX7_barsOf 10 = .ok (.bipush 6, 2) := by decide +kernel
theorem dX7_barsOf_12 : decode cX7_barsOf 12 = .ok (.iload_n 1, 1) := by decide +kernel
theorem dX7_barsOf_13 : decode cX7_barsOf 13 = .ok (.imul, 1) := by decide +kernel
theorem dX7_barsOf_14 : decode cX7_barsOf 14 = .ok (.ishl, 1) := by decide +kernel
theorem dX7_barsOf_15 : decode cX7_barsOf 15 = .ok (.ireturn, 1) := by decide +kernel
theorem dX7_family_0 : decode cX7_family 0 = .ok (.iload_n 1, 1) := by decide +kernel
theorem dX7_family_1 : decode cX7_family 1 = .ok (.ifCond .lt 16, 3) := by decide +kernel
theorem dX7_family_4 : decode cX7_family 4 = .ok (.iload_n 1, 1) := by decide +kernel
theorem dX7_family_5 : decode cX7_family 5 = .ok (.aload_n 0, 1) := by decide +kernel
theorem dX7_family_6 : decode cX7_family 6 = .ok (.invokevirtual 177, 3) := by decide +kernel
theorem dX7_family_9 : decode cX7_family 9 = .ok (.ior, 1) := by decide +kernel
theorem dX7_family_10 : decode cX7_family 10 = .ok (.aload_n 0, 1) := by decide +kernel
theorem dX7_family_11 : decode cX7_family 11 = .ok (.invokevirtual 177, 3) := by decide +kernel
theorem dX7_family_14 : decode cX7_family 14 = .ok (.if_icmp .eq 6, 3) := by decide +kernel
theorem dX7_family_17 : decode cX7_family 17 = .ok (.bipush (-2), 2) := by decide +kernel
theorem dX7_family_19 : decode cX7_family 19 = .ok (.ireturn, 1) := by decide +kernel
theorem dX7_family_20 : decode cX7_family 20 = .ok (.aload_n 0, 1) := by decide +kernel
theorem dX7_family_21 : decode cX7_family 21 = .ok (.getfield 66, 3) := by decide +kernel
theorem dX7_family_24 : decode cX7_family 24 = .ok (.ifCond .ne 6, 3) := by decide +kernel
theorem dX7_family_27 : decode cX7_family 27 = .ok (.bipush (-3), 2) := by decide +kernel
theorem dX7_family_29 : decode cX7_family 29 = .ok (.ireturn, 1) := by decide +kernel
theorem dX7_family_30 : decode cX7_family 30 = .ok (.aload_n 0, 1) := by decide +kernel
theorem dX7_family_31 : decode cX7_family 31 = .ok (.getfield 106, 3) := by decide +kernel
theorem dX7_family_34 : decode cX7_family 34 = .ok (.bipush 6, 2) := by decide +kernel
theorem dX7_family_36 : decode cX7_family 36 = .ok (.if_icmp .ne 6, 3) := by decide +kernel
theorem dX7_family_39 : decode cX7_family 39 = .ok (.bipush (-4), 2) := by decide +kernel
theorem dX7_family_41 : decode cX7_family 41 = .ok (.ireturn, 1) := by decide +kernel
theorem dX7_family_42 : decode cX7_family 42 = .ok (.aload_n 0, 1) := by decide +kernel
theorem dX7_family_43 : decode cX7_family 43 = .ok (.getfield 50, 3) := by decide +kernel
theorem dX7_family_46 : decode cX7_family 46 = .ok (.aload_n 0, 1) := by decide +kernel
theorem dX7_family_47 : decode cX7_family 47 = .ok (.getfield 106, 3) := by decide +kernel
theorem dX7_family_50 : decode cX7_family 50 = .ok (.iload_n 1, 1) := by decide +kernel
theorem dX7_family_51 : decode cX7_family 51 = .ok (.iastore, 1) := by decide +kernel
theorem dX7_family_52 : decode cX7_family 52 = .ok (.aload_n 0, 1) := by decide +kernel
theorem dX7_family_53 : decode cX7_family 53 = .ok (.dup, 1) := by decide +kernel
theorem dX7_family_54 : decode cX7_family 54 = .ok (.getfield 106, 3) := by decide +kernel
theorem dX7_family_57 : decode cX7_family 57 = .ok (.iconst 1, 1) := by decide +kernel
theorem dX7_family_58 : decode cX7_family 58 = .ok (.iadd, 1) := by decide +kernel
theorem dX7_family_59 : decode cX7_family 59 = .ok (.putfield 106, 3) := by decide +kernel
theorem dX7_family_62 : decode cX7_family 62 = .ok (.aload_n 0, 1) := by decide +kernel
theorem dX7_family_63 : decode cX7_family 63 = .ok (.getfield 106, 3) := by decide +kernel
theorem dX7_family_66 : decode cX7_family 66 = .ok (.iconst 1, 1) := by decide +kernel
theorem dX7_family_67 : decode cX7_family 67 = .ok (.isub, 1) := by decide +kernel
theorem dX7_family_68 : decode cX7_family 68 = .ok (.ireturn, 1) := by decide +kernel
theorem dX7_knows_0 : decode cX7_knows 0 = .ok (.iload_n 1, 1) := by decide +kernel
theorem dX7_knows_1 : decode cX7_knows 1 = .ok (.ifCond .lt 20, 3) := by decide +kernel
theorem dX7_knows_4 : decode cX7_knows 4 = .ok (.iload_n 1, 1) := by decide +kernel
theorem dX7_knows_5 : decode cX7_knows 5 = .ok (.aload_n 0, 1) := by decide +kernel
theorem dX7_knows_6 : decode cX7_knows 6 = .ok (.getfield 106, 3) := by decide +kernel
theorem dX7_knows_9 : decode cX7_knows 9 = .ok (.if_icmp .ge 12, 3) := by decide +kernel
theorem dX7_knows_12 : decode cX7_knows 12 = .ok (.aload_n 0, 1) := by decide +kernel
theorem dX7_knows_13 : decode cX7_knows 13 = .ok (.getfield 50, 3) := by decide +kernel
theorem dX7_knows_16 : decode cX7_knows 16 = .ok (.iload_n 1, 1) := by decide +kernel
theorem dX7_knows_17 : decode cX7_knows 17 = .ok (.iaload, 1) := by decide +kernel
theorem dX7_knows_18 : decode cX7_knows 18 = .ok (.goto 4, 3) := by decide +kernel
theorem dX7_knows_21 : decode cX7_knows 21 = .ok (.iconst (-1), 1) := by decide +kernel
theorem dX7_knows_22 : decode cX7_knows 22 = .ok (.ireturn, 1) := by decide +kernel
theorem dX7_known_0 : decode cX7_known 0 = .ok (.iconst 0, 1) := by decide +kernel
theorem dX7_known_1 : decode cX7_known 1 = .ok (.istore_n 2, 1) := by decide +kernel
theorem dX7_known_2 : decode cX7_known 2 = .ok (.iconst 0, 1) := by decide +kernel
theorem dX7_known_3 : decode cX7_known 3 = .ok (.istore_n 3, 1) := by decide +kernel
theorem dX7_known_4 : decode cX7_known 4 = .ok (.iload_n 3, 1) := by decide +kernel
theorem dX7_known_5 : decode cX7_known 5 = .ok (.aload_n 0, 1) := by decide +kernel
theorem dX7_known_6 : decode cX7_known 6 = .ok (.getfield 106, 3) := by decide +kernel
theorem dX7_known_9 : decode cX7_known 9 = .ok (.if_icmp .ge 31, 3) := by decide +kernel
theorem dX7_known_12 : decode cX7_known 12 = .ok (.iload_n 2, 1) := by decide +kernel
theorem dX7_known_13 : decode cX7_known 13 = .ok (.iload_n 1, 1) := by decide +kernel
theorem dX7_known_14 : decode cX7_known 14 = .ok (.iload_n 3, 1) := by decide +kernel
theorem dX7_known_15 : decode cX7_known 15 = .ok (.ishr, 1) := by decide +kernel
theorem dX7_known_16 : decode cX7_known 16 = .ok (.iconst 1, 1) := by decide +kernel
theorem dX7_known_17 : decode cX7_known 17 = .ok (.iand, 1) := by decide +kernel
theorem dX7_known_18 : decode cX7_known 18 = .ok (.iconst 1, 1) := by decide +kernel
theorem dX7_known_19 : decode cX7_known 19 = .ok (.if_icmp .ne 12, 3) := by decide +kernel
theorem dX7_known_22 : decode cX7_known 22 = .ok (.aload_n 0, 1) := by decide +kernel
theorem dX7_known_23 : decode cX7_known 23 = .ok (.getfield 50, 3) := by decide +kernel
theorem dX7_known_26 : decode cX7_known 26 = .ok (.iload_n 3, 1) := by decide +kernel
theorem dX7_known_27 : decode cX7_known 27 = .ok (.iaload, 1) := by decide +kernel
theorem dX7_known_28 : decode cX7_known 28 = .ok (.goto 4, 3) := by decide +kernel
theorem dX7_known_31 : decode cX7_known 31 = .ok (.iconst 0, 1) := by decide +kernel
theorem dX7_known_32 : decode cX7_known 32 = .ok (.ior, 1) := by decide +kernel
theorem dX7_known_33 : decode cX7_known 33 = .ok (.istore_n 2, 1) := by decide +kernel
theorem dX7_known_34 : decode cX7_known 34 = .ok (.iinc 3 1, 3) := by decide +kernel
theorem dX7_known_37 : decode cX7_known 37 = .ok (.goto (-33), 3) := by decide +kernel
theorem dX7_known_40 : decode cX7_known 40 = .ok (.iload_n 2, 1) := by decide +kernel
theorem dX7_known_41 : decode cX7_known 41 = .ok (.ireturn, 1) := by decide +kernel
theorem dX7_knowAll_0 : decode cX7_knowAll 0 = .ok (.aload_n 0, 1) := by decide +kernel
theorem dX7_knowAll_1 : decode cX7_knowAll 1 = .ok (.iload_n 1, 1) := by decide +kernel
theorem dX7_knowAll_2 : decode cX7_knowAll 2 = .ok (.invokevirtual 181, 3) := by decide +kernel
theorem dX7_knowAll_5 : decode cX7_knowAll 5 = .ok (.aload_n 0, 1) := by decide +kernel
theorem dX7_knowAll_6 : decode cX7_knowAll 6 = .ok (.iload_n 2, 1) := by decide +kernel
theorem dX7_knowAll_7 : decode cX7_knowAll 7 = .ok (.invokevirtual 174, 3) := by decide +kernel
theorem dX7_knowAll_10 : decode cX7_knowAll 10 = .ok (.iand, 1) := by decide +kernel
theorem dX7_knowAll_11 : decode cX7_knowAll 11 = .ok (.aload_n 0, 1) := by decide +kernel
theorem dX7_knowAll_12 : decode cX7_knowAll 12 = .ok (.iload_n 2, 1) := by decide +kernel
theorem dX7_knowAll_13 : decode cX7_knowAll 13 = .ok (.invokevirtual 174, 3) := by decide +kernel
theorem dX7_knowAll_16 : decode cX7_knowAll 16 = .ok (.if_icmp .ne 7, 3) := by decide +kernel
theorem dX7_knowAll_19 : decode cX7_knowAll 19 = .ok (.iconst 1, 1) := by decide +kernel
theorem dX7_knowAll_20 : decode cX7_knowAll 20 = .ok (.goto 4, 3) := by decide +kernel
theorem dX7_knowAll_23 : decode cX7_knowAll 23 = .ok (.iconst 0, 1) := by decide +kernel
theorem dX7_knowAll_24 : decode cX7_knowAll 24 = .ok (.ireturn, 1) := by decide +kernel
theorem dX7_fewest_0 : decode cX7_fewest 0 = .ok (.aload_n 0, 1) := by decide +kernel
theorem dX7_fewest_1 : decode cX7_fewest 1 = .ok (.iload_n 1, 1) := by decide +kernel
theorem dX7_fewest_2 : decode cX7_fewest 2 = .ok (.invokevirtual 69, 3) := by decide +kernel
theorem dX7_fewest_5 : decode cX7_fewest 5 = .ok (.ifCond .ne 5, 3) := by decide +kernel
theorem dX7_fewest_8 : decode cX7_fewest 8 = .ok (.iconst (-1), 1) := by decide +kernel
theorem dX7_fewest_9 : decode cX7_fewest 9 = .ok (.ireturn, 1) := by decide +kernel
theorem dX7_fewest_10 : decode cX7_fewest 10 = .ok (.bipush (-9), 2) := by decide +kernel
theorem dX7_fewest_12 : decode cX7_fewest 12 = .ok (.istore_n 2, 1) := by decide +kernel
theorem dX7_fewest_13 : decode cX7_fewest 13 = .ok (.iconst 0, 1) := by decide +kernel
theorem dX7_fewest_14 : decode cX7_fewest 14 = .ok (.istore_n 3, 1) := by decide +kernel
theorem dX7_fewest_15 : decode cX7_fewest 15 = .ok (.iload_n 3, 1) := by decide +kernel
theorem dX7_fewest_16 : decode cX7_fewest 16 = .ok (.iconst 1, 1) := by decide +kernel
theorem dX7_fewest_17 : decode cX7_fewest 17 = .ok (.aload_n 0, 1) := by decide +kernel
theorem dX7_fewest_18 : decode cX7_fewest 18 = .ok (.getfield 106, 3) := by decide +kernel
theorem dX7_fewest_21 : decode cX7_fewest 21 = .ok (.ishl, 1) := by decide +kernel
theorem dX7_fewest_22 : decode cX7_fewest 22 = .ok (.if_icmp .ge 53, 3) := by decide +kernel
theorem dX7_fewest_25 : decode cX7_fewest 25 = .ok (.iload_n 2, 1) := by decide +kernel
theorem dX7_fewest_26 : decode cX7_fewest 26 = .ok (.bipush (-9), 2) := by decide +kernel
theorem dX7_fewest_28 : decode cX7_fewest 28 = .ok (.if_icmp .eq 14, 3) := by decide +kernel
theorem dX7_fewest_31 : decode cX7_fewest 31 = .ok (.iload_n 3, 1) := by decide +kernel
theorem dX7_fewest_32 : decode cX7_fewest 32 = .ok (.invokestatic 127, 3) := by decide +kernel
theorem dX7_fewest_35 : decode cX7_fewest 35 = .ok (.iload_n 2, 1) := by decide +kernel
theorem dX7_fewest_36 : decode cX7_fewest 36 = .ok (.invokestatic 127, 3) := by decide +kernel
theorem dX7_fewest_39 : decode cX7_fewest 39 = .ok (.if_icmp .ge 7, 3) := by decide +kernel
theorem dX7_fewest_42 : decode cX7_fewest 42 = .ok (.iconst 1, 1) := by decide +kernel
theorem dX7_fewest_43 : decode cX7_fewest 43 = .ok (.goto 4, 3) := by decide +kernel
theorem dX7_fewest_46 : decode cX7_fewest 46 = .ok (.iconst 0, 1) := by decide +kernel
theorem dX7_fewest_47 : decode cX7_fewest 47 = .ok (.istore 4, 2) := by decide +kernel
theorem dX7_fewest_49 : decode cX7_fewest 49 = .ok (.iload 4, 2) := by decide +kernel
theorem dX7_fewest_51 : decode cX7_fewest 51 = .ok (.ifCond .eq 16, 3) := by decide +kernel
theorem dX7_fewest_54 : decode cX7_fewest 54 = .ok (.aload_n 0, 1) := by decide +kernel
theorem dX7_fewest_55 : decode cX7_fewest 55 = .ok (.iload_n 3, 1) := by decide +kernel
theorem dX7_fewest_56 : decode cX7_fewest 56 = .ok (.iload_n 1, 1) := by decide +kernel
theorem dX7_fewest_57 : decode cX7_fewest 57 = .ok (.invokevirtual 184, 3) := by decide +kernel
theorem dX7_fewest_60 : decode cX7_fewest 60 = .ok (.ifCond .eq 7, 3) := by decide +kernel
theorem dX7_fewest_63 : decode cX7_fewest 63 = .ok (.iload_n 3, 1) := by decide +kernel
theorem dX7_fewest_64 : decode cX7_fewest 64 = .ok (.goto 4, 3) := by decide +kernel
theorem dX7_fewest_67 : decode cX7_fewest 67 = .ok (.iload_n 2, 1) := by decide +kernel
theorem dX7_fewest_68 : decode cX7_fewest 68 = .ok (.istore_n 2, 1) := by decide +kernel
theorem dX7_fewest_69 : decode cX7_fewest 69 = .ok (.iinc 3 1, 3) := by decide +kernel
theorem dX7_fewest_72 : decode cX7_fewest 72 = .ok (.goto (-57), 3) := by decide +kernel
theorem dX7_fewest_75 : decode cX7_fewest 75 = .ok (.iload_n 2, 1) := by decide +kernel
theorem dX7_fewest_76 : decode cX7_fewest 76 = .ok (.ireturn, 1) := by decide +kernel
theorem dX7_any_0 : decode cX7_any 0 = .ok (.aload_n 0, 1) := by decide +kernel
theorem dX7_any_1 : decode cX7_any 1 = .ok (.iload_n 1, 1) := by decide +kernel
theorem dX7_any_2 : decode cX7_any 2 = .ok (.invokevirtual 69, 3) := by decide +kernel
theorem dX7_any_5 : decode cX7_any 5 = .ok (.ifCond .ne 5, 3) := by decide +kernel
theorem dX7_any_8 : decode cX7_any 8 = .ok (.iconst (-1), 1) := by decide +kernel
theorem dX7_any_9 : decode cX7_any 9 = .ok (.ireturn, 1) := by decide +kernel
theorem dX7_any_10 : decode cX7_any 10 = .ok (.iconst 0, 1) := by decide +kernel
theorem dX7_any_11 : decode cX7_any 11 = .ok (.istore_n 2, 1) := by decide +kernel
theorem dX7_any_12 : decode cX7_any 12 = .ok (.iconst 0, 1) := by decide +kernel
theorem dX7_any_13 : decode cX7_any 13 = .ok (.istore_n 3, 1) := by decide +kernel
theorem dX7_any_14 : decode cX7_any 14 = .ok (.iload_n 3, 1) := by decide +kernel
theorem dX7_any_15 : decode cX7_any 15 = .ok (.iconst 1, 1) := by decide +kernel
theorem dX7_any_16 : decode cX7_any 16 = .ok (.aload_n 0, 1) := by decide +kernel
theorem dX7_any_17 : decode cX7_any 17 = .ok (.getfield 106, 3) := by decide +kernel
theorem dX7_any_20 : decode cX7_any 20 = .ok (.ishl, 1) := by decide +kernel
theorem dX7_any_21 : decode cX7_any 21 = .ok (.if_icmp .ge 37, 3) := by decide +kernel
theorem dX7_any_24 : decode cX7_any 24 = .ok (.aload_n 0, 1) := by decide +kernel
theorem dX7_any_25 : decode cX7_any 25 = .ok (.iload_n 3, 1) := by decide +kernel
theorem dX7_any_26 : decode cX7_any 26 = .ok (.iload_n 1, 1) := by decide +kernel
theorem dX7_any_27 : decode cX7_any 27 = .ok (.invokevirtual 184, 3) := by decide +kernel
theorem dX7_any_30 : decode cX7_any 30 = .ok (.ifCond .ne 20, 3) := by decide +kernel
theorem dX7_any_33 : decode cX7_any 33 = .ok (.iload_n 3, 1) := by decide +kernel
theorem dX7_any_34 : decode cX7_any 34 = .ok (.invokestatic 127, 3) := by decide +kernel
theorem dX7_any_37 : decode cX7_any 37 = .ok (.iload_n 2, 1) := by decide +kernel
theorem dX7_any_38 : decode cX7_any 38 = .ok (.if_icmp .lt 12, 3) := by decide +kernel
theorem dX7_any_41 : decode cX7_any 41 = .ok (.iload_n 3, 1) := by decide +kernel
theorem dX7_any_42 : decode cX7_any 42 = .ok (.invokestatic 127, 3) := by decide +kernel
theorem dX7_any_45 : decode cX7_any 45 = .ok (.iconst 1, 1) := by decide +kernel
theorem dX7_any_46 : decode cX7_any 46 = .ok (.iadd, 1) := by decide +kernel
theorem dX7_any_47 : decode cX7_any 47 = .ok (.goto 4, 3) := by decide +kernel
theorem dX7_any_50 : decode cX7_any 50 = .ok (.iload_n 2, 1) := by decide +kernel
theorem dX7_any_51 : decode cX7_any 51 = .ok (.istore_n 2, 1) := by decide +kernel
theorem dX7_any_52 : decode cX7_any 52 = .ok (.iinc 3 1, 3) := by decide +kernel
theorem dX7_any_55 : decode cX7_any 55 = .ok (.goto (-41), 3) := by decide +kernel
theorem dX7_any_58 : decode cX7_any 58 = .ok (.iload_n 2, 1) := by decide +kernel
theorem dX7_any_59 : decode cX7_any 59 = .ok (.aload_n 0, 1) := by decide +kernel
theorem dX7_any_60 : decode cX7_any 60 = .ok (.getfield 106, 3) := by decide +kernel
theorem dX7_any_63 : decode cX7_any 63 = .ok (.if_icmp .le 8, 3) := by decide +kernel
theorem dX7_any_66 : decode cX7_any 66 = .ok (.bipush (-9), 2) := by decide +kernel
theorem dX7_any_68 : decode cX7_any 68 = .ok (.goto 4, 3) := by decide +kernel
theorem dX7_any_71 : decode cX7_any 71 = .ok (.iload_n 2, 1) := by decide +kernel
theorem dX7_any_72 : decode cX7_any 72 = .ok (.ireturn, 1) := by decide +kernel
theorem dX7_gone_0 : decode cX7_gone 0 = .ok (.aload_n 0, 1) := by decide +kernel
theorem dX7_gone_1 : decode cX7_gone 1 = .ok (.iload_n 1, 1) := by decide +kernel
theorem dX7_gone_2 : decode cX7_gone 2 = .ok (.invokevirtual 69, 3) := by decide +kernel
theorem dX7_gone_5 : decode cX7_gone 5 = .ok (.ifCond .ne 5, 3) := by decide +kernel
theorem dX7_gone_8 : decode cX7_gone 8 = .ok (.iconst (-1), 1) := by decide +kernel
theorem dX7_gone_9 : decode cX7_gone 9 = .ok (.ireturn, 1) := by decide +kernel
theorem dX7_gone_10 : decode cX7_gone 10 = .ok (.iload_n 2, 1) := by decide +kernel
theorem dX7_gone_11 : decode cX7_gone 11 = .ok (.iconst 0, 1) := by decide +kernel
theorem dX7_gone_12 : decode cX7_gone 12 = .ok (.iconst 1, 1) := by decide +kernel
theorem dX7_gone_13 : decode cX7_gone 13 = .ok (.aload_n 0, 1) := by decide +kernel
theorem dX7_gone_14 : decode cX7_gone 14 = .ok (.getfield 106, 3) := by decide +kernel
theorem dX7_gone_17 : decode cX7_gone 17 = .ok (.ishl, 1) := by decide +kernel
theorem dX7_gone_18 : decode cX7_gone 18 = .ok (.iconst 1, 1) := by decide +kernel
theorem dX7_gone_19 : decode cX7_gone 19 = .ok (.isub, 1) := by decide +kernel
theorem dX7_gone_20 : decode cX7_gone 20 = .ok (.invokestatic 59, 3) := by decide +kernel
theorem dX7_gone_23 : decode cX7_gone 23 = .ok (.ifCond .ne 6, 3) := by decide +kernel
theorem dX7_gone_26 : decode cX7_gone 26 = .ok (.bipush (-2), 2) := by decide +kernel
theorem dX7_gone_28 : decode cX7_gone 28 = .ok (.ireturn, 1) := by decide +kernel
theorem dX7_gone_29 : decode cX7_gone 29 = .ok (.iconst 1, 1) := by decide +kernel
theorem dX7_gone_30 : decode cX7_gone 30 = .ok (.aload_n 0, 1) := by decide +kernel
theorem dX7_gone_31 : decode cX7_gone 31 = .ok (.getfield 106, 3) := by decide +kernel
theorem dX7_gone_34 : decode cX7_gone 34 = .ok (.ishl, 1) := by decide +kernel
theorem dX7_gone_35 : decode cX7_gone 35 = .ok (.iconst 1, 1) := by decide +kernel
theorem dX7_gone_36 : decode cX7_gone 36 = .ok (.isub, 1) := by decide +kernel
theorem dX7_gone_37 : decode cX7_gone 37 = .ok (.iload_n 2, 1) := by decide +kernel
theorem dX7_gone_38 : decode cX7_gone 38 = .ok (.isub, 1) := by decide +kernel
theorem dX7_gone_39 : decode cX7_gone 39 = .ok (.istore_n 3, 1) := by decide +kernel
theorem dX7_gone_40 : decode cX7_gone 40 = .ok (.aload_n 0, 1) := by decide +kernel
theorem dX7_gone_41 : decode cX7_gone 41 = .ok (.iload_n 1, 1) := by decide +kernel
theorem dX7_gone_42 : decode cX7_gone 42 = .ok (.invokevirtual 174, 3) := by decide +kernel
theorem dX7_gone_45 : decode cX7_gone 45 = .ok (.aload_n 0, 1) := by decide +kernel
theorem dX7_gone_46 : decode cX7_gone 46 = .ok (.iload_n 3, 1) := by decide +kernel
theorem dX7_gone_47 : decode cX7_gone 47 = .ok (.invokevirtual 181, 3) := by decide +kernel
theorem dX7_gone_50 : decode cX7_gone 50 = .ok (.aload_n 0, 1) := by decide +kernel
theorem dX7_gone_51 : decode cX7_gone 51 = .ok (.iload_n 1, 1) := by decide +kernel
theorem dX7_gone_52 : decode cX7_gone 52 = .ok (.invokevirtual 174, 3) := by decide +kernel
theorem dX7_gone_55 : decode cX7_gone 55 = .ok (.iand, 1) := by decide +kernel
theorem dX7_gone_56 : decode cX7_gone 56 = .ok (.isub, 1) := by decide +kernel
theorem dX7_gone_57 : decode cX7_gone 57 = .ok (.istore 4, 2) := by decide +kernel
theorem dX7_gone_59 : decode cX7_gone 59 = .ok (.iload 4, 2) := by decide +kernel
theorem dX7_gone_61 : decode cX7_gone 61 = .ok (.bipush 6, 2) := by decide +kernel
theorem dX7_gone_63 : decode cX7_gone 63 = .ok (.iload_n 1, 1) := by decide +kernel
theorem dX7_gone_64 : decode cX7_gone 64 = .ok (.imul, 1) := by decide +kernel
theorem dX7_gone_65 : decode cX7_gone 65 = .ok (.ishr, 1) := by decide +kernel
theorem dX7_gone_66 : decode cX7_gone 66 = .ok (.ireturn, 1) := by decide +kernel
theorem dX7_evenings_0 : decode cX7_evenings 0 = .ok (.aload_n 0, 1) := by decide +kernel
theorem dX7_evenings_1 : decode cX7_evenings 1 = .ok (.iload_n 1, 1) := by decide +kernel
theorem dX7_evenings_2 : decode cX7_evenings 2 = .ok (.invokevirtual 69, 3) := by decide +kernel
theorem dX7_evenings_5 : decode cX7_evenings 5 = .ok (.ifCond .ne 5, 3) := by decide +kernel
theorem dX7_evenings_8 : decode cX7_evenings 8 = .ok (.iconst (-1), 1) := by decide +kernel
theorem dX7_evenings_9 : decode cX7_evenings 9 = .ok (.ireturn, 1) := by decide +kernel
theorem dX7_evenings_10 : decode cX7_evenings 10 = .ok (.aload_n 0, 1) := by decide +kernel
theorem dX7_evenings_11 : decode cX7_evenings 11 = .ok (.iconst 1, 1) := by decide +kernel
theorem dX7_evenings_12 : decode cX7_evenings 12 = .ok (.aload_n 0, 1) := by decide +kernel
theorem dX7_evenings_13 : decode cX7_evenings 13 = .ok (.getfield 106, 3) := by decide +kernel
theorem dX7_evenings_16 : decode cX7_evenings 16 = .ok (.ishl, 1) := by decide +kernel
theorem dX7_evenings_17 : decode cX7_evenings 17 = .ok (.iconst 1, 1) := by decide +kernel
theorem dX7_evenings_18 : decode cX7_evenings 18 = .ok (.isub, 1) := by decide +kernel
theorem dX7_evenings_19 : decode cX7_evenings 19 = .ok (.invokevirtual 181, 3) := by decide +kernel
theorem dX7_evenings_22 : decode cX7_evenings 22 = .ok (.aload_n 0, 1) := by decide +kernel
theorem dX7_evenings_23 : decode cX7_evenings 23 = .ok (.iload_n 1, 1) := by decide +kernel
theorem dX7_evenings_24 : decode cX7_evenings 24 = .ok (.invokevirtual 174, 3) := by decide +kernel
theorem dX7_evenings_27 : decode cX7_evenings 27 = .ok (.iand, 1) := by decide +kernel
theorem dX7_evenings_28 : decode cX7_evenings 28 = .ok (.istore_n 2, 1) := by decide +kernel
theorem dX7_evenings_29 : decode cX7_evenings 29 = .ok (.iconst 0, 1) := by decide +kernel
theorem dX7_evenings_30 : decode cX7_evenings 30 = .ok (.istore_n 3, 1) := by decide +kernel
theorem dX7_evenings_31 : decode cX7_evenings 31 = .ok (.iconst 0, 1) := by decide +kernel
theorem dX7_evenings_32 : decode cX7_evenings 32 = .ok (.istore 4, 2) := by decide +kernel
theorem dX7_evenings_34 : decode cX7_evenings 34 = .ok (.iload 4, 2) := by decide +kernel
theorem dX7_evenings_36 : decode cX7_evenings 36 = .ok (.aload_n 0, 1) := by decide +kernel
theorem dX7_evenings_37 : decode cX7_evenings 37 = .ok (.getfield 106, 3) := by decide +kernel
theorem dX7_evenings_40 : decode cX7_evenings 40 = .ok (.if_icmp .ge 38, 3) := by decide +kernel
theorem dX7_evenings_43 : decode cX7_evenings 43 = .ok (.iload_n 2, 1) := by decide +kernel
theorem dX7_evenings_44 : decode cX7_evenings 44 = .ok (.aload_n 0, 1) := by decide +kernel
theorem dX7_evenings_45 : decode cX7_evenings 45 = .ok (.getfield 50, 3) := by decide +kernel
theorem dX7_evenings_48 : decode cX7_evenings 48 = .ok (.iload 4, 2) := by decide +kernel
theorem dX7_evenings_50 : decode cX7_evenings 50 = .ok (.iaload, 1) := by decide +kernel
theorem dX7_evenings_51 : decode cX7_evenings 51 = .ok (.iload_n 2, 1) := by decide +kernel
theorem dX7_evenings_52 : decode cX7_evenings 52 = .ok (.iand, 1) := by decide +kernel
theorem dX7_evenings_53 : decode cX7_evenings 53 = .ok (.isub, 1) := by decide +kernel
theorem dX7_evenings_54 : decode cX7_evenings 54 = .ok (.invokestatic 127, 3) := by decide +kernel
theorem dX7_evenings_57 : decode cX7_evenings 57 = .ok (.istore 5, 2) := by decide +kernel
theorem dX7_evenings_59 : decode cX7_evenings 59 = .ok (.iload 5, 2) := by decide +kernel
theorem dX7_evenings_61 : decode cX7_evenings 61 = .ok (.iload_n 3, 1) := by decide +kernel
theorem dX7_evenings_62 : decode cX7_evenings 62 = .ok (.if_icmp .le 8, 3) := by decide +kernel
theorem dX7_evenings_65 : decode cX7_evenings 65 = .ok (.iload 5, 2) := by decide +kernel
theorem dX7_evenings_67 : decode cX7_evenings 67 = .ok (.goto 4, 3) := by decide +kernel
theorem dX7_evenings_70 : decode cX7_evenings 70 = .ok (.iload_n 3, 1) := by decide +kernel
theorem dX7_evenings_71 : decode cX7_evenings 71 = .ok (.istore_n 3, 1) := by decide +kernel
theorem dX7_evenings_72 : decode cX7_evenings 72 = .ok (.iinc 4 1, 3) := by decide +kernel
theorem dX7_evenings_75 : decode cX7_evenings 75 = .ok (.goto (-41), 3) := by decide +kernel
theorem dX7_evenings_78 : decode cX7_evenings 78 = .ok (.iload_n 3, 1) := by decide +kernel
theorem dX7_evenings_79 : decode cX7_evenings 79 = .ok (.ireturn, 1) := by decide +kernel
theorem dX7_isSeen_0 : decode cX7_isSeen 0 = .ok (.iconst 0, 1) := by decide +kernel
theorem dX7_isSeen_1 : decode cX7_isSeen 1 = .ok (.istore 5, 2) := by decide +kernel
theorem dX7_isSeen_3 : decode cX7_isSeen 3 = .ok (.iload 5, 2) := by decide +kernel
theorem dX7_isSeen_5 : decode cX7_isSeen 5 = .ok (.iload 4, 2) := by decide +kernel
theorem dX7_isSeen_7 : decode cX7_isSeen 7 = .ok (.if_icmp .ge 36, 3) := by decide +kernel
theorem dX7_isSeen_10 : decode cX7_isSeen 10 = .ok (.aload_n 0, 1) := by decide +kernel
theorem dX7_isSeen_11 : decode cX7_isSeen 11 = .ok (.getfield 25, 3) := by decide +kernel
theorem dX7_isSeen_14 : decode cX7_isSeen 14 = .ok (.iload_n 1, 1) := by decide +kernel
theorem dX7_isSeen_15 : decode cX7_isSeen 15 = .ok (.iload 5, 2) := by decide +kernel
theorem dX7_isSeen_17 : decode cX7_isSeen 17 = .ok (.invokestatic 99, 3) := by decide +kernel
theorem dX7_isSeen_20 : decode cX7_isSeen 20 = .ok (.iaload, 1) := by decide +kernel
theorem dX7_isSeen_21 : decode cX7_isSeen 21 = .ok (.iload_n 2, 1) := by decide +kernel
theorem dX7_isSeen_22 : decode cX7_isSeen 22 = .ok (.iand, 1) := by decide +kernel
theorem dX7_isSeen_23 : decode cX7_isSeen 23 = .ok (.aload_n 0, 1) := by decide +kernel
theorem dX7_isSeen_24 : decode cX7_isSeen 24 = .ok (.getfield 16, 3) := by decide +kernel
theorem dX7_isSeen_27 : decode cX7_isSeen 27 = .ok (.iload_n 3, 1) := by decide +kernel
theorem dX7_isSeen_28 : decode cX7_isSeen 28 = .ok (.iload 5, 2) := by decide +kernel
theorem dX7_isSeen_30 : decode cX7_isSeen 30 = .ok (.iadd, 1) := by decide +kernel
theorem dX7_isSeen_31 : decode cX7_isSeen 31 = .ok (.iaload, 1) := by decide +kernel
theorem dX7_isSeen_32 : decode cX7_isSeen 32 = .ok (.if_icmp .eq 5, 3) := by decide +kernel
theorem dX7_isSeen_35 : decode cX7_isSeen 35 = .ok (.iconst 0, 1) := by decide +kernel
theorem dX7_isSeen_36 : decode cX7_isSeen 36 = .ok (.ireturn, 1) := by decide +kernel
theorem dX7_isSeen_37 : decode cX7_isSeen 37 = .ok (.iinc 5 1, 3) := by decide +kernel
theorem dX7_isSeen_40 : decode cX7_isSeen 40 = .ok (.goto (-37), 3) := by decide +kernel
theorem dX7_isSeen_43 : decode cX7_isSeen 43 = .ok (.iconst 1, 1) := by decide +kernel
theorem dX7_isSeen_44 : decode cX7_isSeen 44 = .ok (.ireturn, 1) := by decide +kernel
theorem dX7_seen_0 : decode cX7_seen 0 = .ok (.aload_n 0, 1) := by decide +kernel
theorem dX7_seen_1 : decode cX7_seen 1 = .ok (.iconst 0, 1) := by decide +kernel
theorem dX7_seen_2 : decode cX7_seen 2 = .ok (.putfield 53, 3) := by decide +kernel
theorem dX7_seen_5 : decode cX7_seen 5 = .ok (.iload_n 2, 1) := by decide +kernel
theorem dX7_seen_6 : decode cX7_seen 6 = .ok (.invokestatic 76, 3) := by decide +kernel
theorem dX7_seen_9 : decode cX7_seen 9 = .ok (.ifCond .ne 5, 3) := by decide +kernel
theorem dX7_seen_12 : decode cX7_seen 12 = .ok (.iconst (-1), 1) := by decide +kernel
theorem dX7_seen_13 : decode cX7_seen 13 = .ok (.ireturn, 1) := by decide +kernel
theorem dX7_seen_14 : decode cX7_seen 14 = .ok (.iload_n 3, 1) := by decide +kernel
theorem dX7_seen_15 : decode cX7_seen 15 = .ok (.invokestatic 79, 3) := by decide +kernel
theorem dX7_seen_18 : decode cX7_seen 18 = .ok (.ifCond .eq 19, 3) := by decide +kernel
theorem dX7_seen_21 : decode cX7_seen 21 = .ok (.iload_n 1, 1) := by decide +kernel
theorem dX7_seen_22 : decode cX7_seen 22 = .ok (.iconst 0, 1) := by decide +kernel
theorem dX7_seen_23 : decode cX7_seen 23 = .ok (.iconst 1, 1) := by decide +kernel
theorem dX7_seen_24 : decode cX7_seen 24 = .ok (.aload_n 0, 1) := by decide +kernel
theorem dX7_seen_25 : decode cX7_seen 25 = .ok (.getfield 63, 3) := by decide +kernel
theorem dX7_seen_28 : decode cX7_seen 28 = .ok (.ishl, 1) := by decide +kernel
theorem dX7_seen_29 : decode cX7_seen 29 = .ok (.iconst 1, 1) := by decide +kernel
theorem dX7_seen_30 : decode cX7_seen 30 = .ok (.isub, 1) := by decide +kernel
theorem dX7_seen_31 : decode cX7_seen 31 = .ok (.invokestatic 59, 3) := by decide +kernel
theorem dX7_seen_34 : decode cX7_seen 34 = .ok (.ifCond .ne 6, 3) := by decide +kernel
theorem dX7_seen_37 : decode cX7_seen 37 = .ok (.bipush (-2), 2) := by decide +kernel
theorem dX7_seen_39 : decode cX7_seen 39 = .ok (.ireturn, 1) := by decide +kernel
theorem dX7_seen_40 : decode cX7_seen 40 = .ok (.aload_n 0, 1) := by decide +kernel
theorem dX7_seen_41 : decode cX7_seen 41 = .ok (.iload_n 2, 1) := by decide +kernel
theorem dX7_seen_42 : decode cX7_seen 42 = .ok (.iload_n 3, 1) := by decide +kernel
theorem dX7_seen_43 : decode cX7_seen 43 = .ok (.iload 4, 2) := by decide +kernel
theorem dX7_seen_45 : decode cX7_seen 45 = .ok (.iload 5, 2) := by decide +kernel
theorem dX7_seen_47 : decode cX7_seen 47 = .ok (.invokevirtual 82, 3) := by decide +kernel
theorem dX7_seen_50 : decode cX7_seen 50 = .ok (.istore 6, 2) := by decide +kernel
theorem dX7_seen_52 : decode cX7_seen 52 = .ok (.iload 6, 2) := by decide +kernel
theorem dX7_seen_54 : decode cX7_seen 54 = .ok (.ifCond .eq 10, 3) := by decide +kernel
theorem dX7_seen_57 : decode cX7_seen 57 = .ok (.aload_n 0, 1) := by decide +kernel
theorem dX7_seen_58 : decode cX7_seen 58 = .ok (.iload 6, 2) := by decide +kernel
theorem dX7_seen_60 : decode cX7_seen 60 = .ok (.invokevirtual 86, 3) := by decide +kernel
theorem dX7_seen_63 : decode cX7_seen 63 = .ok (.ireturn, 1) := by decide +kernel
theorem dX7_seen_64 : decode cX7_seen 64 = .ok (.aload_n 0, 1) := by decide +kernel
theorem dX7_seen_65 : decode cX7_seen 65 = .ok (.getfield 66, 3) := by decide +kernel
theorem dX7_seen_68 : decode cX7_seen 68 = .ok (.ifCond .ne 6, 3) := by decide +kernel
theorem dX7_seen_71 : decode cX7_seen 71 = .ok (.bipush (-3), 2) := by decide +kernel
theorem dX7_seen_73 : decode cX7_seen 73 = .ok (.ireturn, 1) := by decide +kernel
theorem dX7_seen_74 : decode cX7_seen 74 = .ok (.bipush 80, 2) := by decide +kernel
theorem dX7_seen_76 : decode cX7_seen 76 = .ok (.iload_n 2, 1) := by decide +kernel
theorem dX7_seen_77 : decode cX7_seen 77 = .ok (.imul, 1) := by decide +kernel
theorem dX7_seen_78 : decode cX7_seen 78 = .ok (.iload 4, 2) := by decide +kernel
theorem dX7_seen_80 : decode cX7_seen 80 = .ok (.iadd, 1) := by decide +kernel
theorem dX7_seen_81 : decode cX7_seen 81 = .ok (.istore 7, 2) := by decide +kernel
theorem dX7_seen_83 : decode cX7_seen 83 = .ok (.aload_n 0, 1) := by decide +kernel
theorem dX7_seen_84 : decode cX7_seen 84 = .ok (.iload_n 1, 1) := by decide +kernel
theorem dX7_seen_85 : decode cX7_seen 85 = .ok (.iload 7, 2) := by decide +kernel
theorem dX7_seen_87 : decode cX7_seen 87 = .ok (.iload 5, 2) := by decide +kernel
theorem dX7_seen_89 : decode cX7_seen 89 = .ok (.invokevirtual 187, 3) := by decide +kernel
theorem dX7_seen_92 : decode cX7_seen 92 = .ok (.ifCond .ne 6, 3) := by decide +kernel
theorem dX7_seen_95 : decode cX7_seen 95 = .ok (.bipush (-2), 2) := by decide +kernel
theorem dX7_seen_97 : decode cX7_seen 97 = .ok (.ireturn, 1) := by decide +kernel
theorem dX7_seen_98 : decode cX7_seen 98 = .ok (.iconst 0, 1) := by decide +kernel
theorem dX7_seen_99 : decode cX7_seen 99 = .ok (.istore 8, 2) := by decide +kernel
theorem dX7_seen_101 : decode cX7_seen 101 = .ok (.iconst 0, 1) := by decide +kernel
theorem dX7_seen_102 : decode cX7_seen 102 = .ok (.istore 9, 2) := by decide +kernel
theorem dX7_seen_104 : decode cX7_seen 104 = .ok (.iload 9, 2) := by decide +kernel
theorem dX7_seen_106 : decode cX7_seen 106 = .ok (.aload_n 0, 1) := by decide +kernel
theorem dX7_seen_107 : decode cX7_seen 107 = .ok (.getfield 66, 3) := by decide +kernel
theorem dX7_seen_110 : decode cX7_seen 110 = .ok (.if_icmp .ge 48, 3) := by decide +kernel
theorem dX7_seen_113 : decode cX7_seen 113 = .ok (.iload 8, 2) := by decide +kernel
theorem dX7_seen_115 : decode cX7_seen 115 = .ok (.aload_n 0, 1) := by decide +kernel
theorem dX7_seen_116 : decode cX7_seen 116 = .ok (.getfield 22, 3) := by decide +kernel
theorem dX7_seen_119 : decode cX7_seen 119 = .ok (.iload 9, 2) := by decide +kernel
theorem dX7_seen_121 : decode cX7_seen 121 = .ok (.iaload, 1) := by decide +kernel
theorem dX7_seen_122 : decode cX7_seen 122 = .ok (.iload 5, 2) := by decide +kernel
theorem dX7_seen_124 : decode cX7_seen 124 = .ok (.if_icmp .ne 24, 3) := by decide +kernel
theorem dX7_seen_127 : decode cX7_seen 127 = .ok (.aload_n 0, 1) := by decide +kernel
theorem dX7_seen_128 : decode cX7_seen 128 = .ok (.iload 9, 2) := by decide +kernel
theorem dX7_seen_130 : decode cX7_seen 130 = .ok (.iload_n 1, 1) := by decide +kernel
theorem dX7_seen_131 : decode cX7_seen 131 = .ok (.iload 7, 2) := by decide +kernel
theorem dX7_seen_133 : decode cX7_seen 133 = .ok (.iload 5, 2) := by decide +kernel
theorem dX7_seen_135 : decode cX7_seen 135 = .ok (.invokevirtual 190, 3) := by decide +kernel
theorem dX7_seen_138 : decode cX7_seen 138 = .ok (.ifCond .eq 10, 3) := by decide +kernel
theorem dX7_seen_141 : decode cX7_seen 141 = .ok (.iconst 1, 1) := by decide +kernel
theorem dX7_seen_142 : decode cX7_seen 142 = .ok (.iload 9, 2) := by decide +kernel
theorem dX7_seen_144 : decode cX7_seen 144 = .ok (.ishl, 1) := by decide +kernel
theorem dX7_seen_145 : decode cX7_seen 145 = .ok (.goto 4, 3) := by decide +kernel
theorem dX7_seen_148 : decode cX7_seen 148 = .ok (.iconst 0, 1) := by decide +kernel
theorem dX7_seen_149 : decode cX7_seen 149 = .ok (.ior, 1) := by decide +kernel
theorem dX7_seen_150 : decode cX7_seen 150 = .ok (.istore 8, 2) := by decide +kernel
theorem dX7_seen_152 : decode cX7_seen 152 = .ok (.iinc 9 1, 3) := by decide +kernel
theorem dX7_seen_155 : decode cX7_seen 155 = .ok (.goto (-51), 3) := by decide +kernel
theorem dX7_seen_158 : decode cX7_seen 158 = .ok (.iload 8, 2) := by decide +kernel
theorem dX7_seen_160 : decode cX7_seen 160 = .ok (.ireturn, 1) := by decide +kernel
theorem dX7_areWithin_0 : decode cX7_areWithin 0 = .ok (.iconst 0, 1) := by decide +kernel
theorem dX7_areWithin_1 : decode cX7_areWithin 1 = .ok (.istore 4, 2) := by decide +kernel
theorem dX7_areWithin_3 : decode cX7_areWithin 3 = .ok (.iload 4, 2) := by decide +kernel
theorem dX7_areWithin_5 : decode cX7_areWithin 5 = .ok (.iload_n 3, 1) := by decide +kernel
theorem dX7_areWithin_6 : decode cX7_areWithin 6 = .ok (.if_icmp .ge 26, 3) := by decide +kernel
theorem dX7_areWithin_9 : decode cX7_areWithin 9 = .ok (.aload_n 0, 1) := by decide +kernel
theorem dX7_areWithin_10 : decode cX7_areWithin 10 = .ok (.getfield 16, 3) := by decide +kernel
theorem dX7_areWithin_13 : decode cX7_areWithin 13 = .ok (.iload_n 2, 1) := by decide +kernel
theorem dX7_areWithin_14 : decode cX7_areWithin 14 = .ok (.iload 4, 2) := by decide +kernel
theorem dX7_areWithin_16 : decode cX7_areWithin 16 = .ok (.iadd, 1) := by decide +kernel
theorem dX7_areWithin_17 : decode cX7_areWithin 17 = .ok (.iaload, 1) := by decide +kernel
theorem dX7_areWithin_18 : decode cX7_areWithin 18 = .ok (.iload_n 1, 1) := by decide +kernel
theorem dX7_areWithin_19 : decode cX7_areWithin 19 = .ok (.ior, 1) := by decide +kernel
theorem dX7_areWithin_20 : decode cX7_areWithin 20 = .ok (.iload_n 1, 1) := by decide +kernel
theorem dX7_areWithin_21 : decode cX7_areWithin 21 = .ok (.if_icmp .eq 5, 3) := by decide +kernel
theorem dX7_areWithin_24 : decode cX7_areWithin 24 = .ok (.iconst 0, 1) := by decide +kernel
theorem dX7_areWithin_25 : decode cX7_areWithin 25 = .ok (.ireturn, 1) := by decide +kernel
theorem dX7_areWithin_26 : decode cX7_areWithin 26 = .ok (.iinc 4 1, 3) := by decide +kernel
theorem dX7_areWithin_29 : decode cX7_areWithin 29 = .ok (.goto (-26), 3) := by decide +kernel
theorem dX7_areWithin_32 : decode cX7_areWithin 32 = .ok (.iconst 1, 1) := by decide +kernel
theorem dX7_areWithin_33 : decode cX7_areWithin 33 = .ok (.ireturn, 1) := by decide +kernel
theorem dX7_stands_0 : decode cX7_stands 0 = .ok (.iconst 0, 1) := by decide +kernel
theorem dX7_stands_1 : decode cX7_stands 1 = .ok (.istore 4, 2) := by decide +kernel
theorem dX7_stands_3 : decode cX7_stands 3 = .ok (.iload 4, 2) := by decide +kernel
theorem dX7_stands_5 : decode cX7_stands 5 = .ok (.iload_n 3, 1) := by decide +kernel
theorem dX7_stands_6 : decode cX7_stands 6 = .ok (.iadd, 1) := by decide +kernel
theorem dX7_stands_7 : decode cX7_stands 7 = .ok (.aload_n 0, 1) := by decide +kernel
theorem dX7_stands_8 : decode cX7_stands 8 = .ok (.getfield 22, 3) := by decide +kernel
theorem dX7_stands_11 : decode cX7_stands 11 = .ok (.iload_n 1, 1) := by decide +kernel
theorem dX7_stands_12 : decode cX7_stands 12 = .ok (.iaload, 1) := by decide +kernel
theorem dX7_stands_13 : decode cX7_stands 13 = .ok (.if_icmp .gt 58, 3) := by decide +kernel
theorem dX7_stands_16 : decode cX7_stands 16 = .ok (.iconst 0, 1) := by decide +kernel
theorem dX7_stands_17 : decode cX7_stands 17 = .ok (.istore 5, 2) := by decide +kernel
theorem dX7_stands_19 : decode cX7_stands 19 = .ok (.iload 5, 2) := by decide +kernel
theorem dX7_stands_21 : decode cX7_stands 21 = .ok (.iload_n 3, 1) := by decide +kernel
theorem dX7_stands_22 : decode cX7_stands 22 = .ok (.if_icmp .ge 35, 3) := by decide +kernel
theorem dX7_stands_25 : decode cX7_stands 25 = .ok (.aload_n 0, 1) := by decide +kernel
theorem dX7_stands_26 : decode cX7_stands 26 = .ok (.getfield 25, 3) := by decide +kernel
theorem dX7_stands_29 : decode cX7_stands 29 = .ok (.iload_n 1, 1) := by decide +kernel
theorem dX7_stands_30 : decode cX7_stands 30 = .ok (.iload 4, 2) := by decide +kernel
theorem dX7_stands_32 : decode cX7_stands 32 = .ok (.iload 5, 2) := by decide +kernel
theorem dX7_stands_34 : decode cX7_stands 34 = .ok (.iadd, 1) := by decide +kernel
theorem dX7_stands_35 : decode cX7_stands 35 = .ok (.invokestatic 99, 3) := by decide +kernel
theorem dX7_stands_38 : decode cX7_stands 38 = .ok (.iaload, 1) := by decide +kernel
theorem dX7_stands_39 : decode cX7_stands 39 = .ok (.aload_n 0, 1) := by decide +kernel
theorem dX7_stands_40 : decode cX7_stands 40 = .ok (.getfield 16, 3) := by decide +kernel
theorem dX7_stands_43 : decode cX7_stands 43 = .ok (.iload_n 2, 1) := by decide +kernel
theorem dX7_stands_44 : decode cX7_stands 44 = .ok (.iload 5, 2) := by decide +kernel
theorem dX7_stands_46 : decode cX7_stands 46 = .ok (.iadd, 1) := by decide +kernel
theorem dX7_stands_47 : decode cX7_stands 47 = .ok (.iaload, 1) := by decide +kernel
theorem dX7_stands_48 : decode cX7_stands 48 = .ok (.if_icmp .ne 9, 3) := by decide +kernel
theorem dX7_stands_51 : decode cX7_stands 51 = .ok (.iinc 5 1, 3) := by decide +kernel
theorem dX7_stands_54 : decode cX7_stands 54 = .ok (.goto (-35), 3) := by decide +kernel
theorem dX7_stands_57 : decode cX7_stands 57 = .ok (.iload 5, 2) := by decide +kernel
theorem dX7_stands_59 : decode cX7_stands 59 = .ok (.iload_n 3, 1) := by decide +kernel
theorem dX7_stands_60 : decode cX7_stands 60 = .ok (.if_icmp .ne 5, 3) := by decide +kernel
theorem dX7_stands_63 : decode cX7_stands 63 = .ok (.iconst 1, 1) := by decide +kernel
theorem dX7_stands_64 : decode cX7_stands 64 = .ok (.ireturn, 1) := by decide +kernel
theorem dX7_stands_65 : decode cX7_stands 65 = .ok (.iinc 4 1, 3) := by decide +kernel
theorem dX7_stands_68 : decode cX7_stands 68 = .ok (.goto (-65), 3) := by decide +kernel
theorem dX7_stands_71 : decode cX7_stands 71 = .ok (.iconst 0, 1) := by decide +kernel
theorem dX7_stands_72 : decode cX7_stands 72 = .ok (.ireturn, 1) := by decide +kernel
theorem dX7_part_0 : decode cX7_part 0 = .ok (.aload_n 0, 1) := by decide +kernel
theorem dX7_part_1 : decode cX7_part 1 = .ok (.iconst 0, 1) := by decide +kernel
theorem dX7_part_2 : decode cX7_part 2 = .ok (.putfield 53, 3) := by decide +kernel
theorem dX7_part_5 : decode cX7_part 5 = .ok (.iload_n 1, 1) := by decide +kernel
theorem dX7_part_6 : decode cX7_part 6 = .ok (.invokestatic 76, 3) := by decide +kernel
theorem dX7_part_9 : decode cX7_part 9 = .ok (.ifCond .ne 5, 3) := by decide +kernel
theorem dX7_part_12 : decode cX7_part 12 = .ok (.iconst (-1), 1) := by decide +kernel
theorem dX7_part_13 : decode cX7_part 13 = .ok (.ireturn, 1) := by decide +kernel
theorem dX7_part_14 : decode cX7_part 14 = .ok (.iload_n 2, 1) := by decide +kernel
theorem dX7_part_15 : decode cX7_part 15 = .ok (.invokestatic 79, 3) := by decide +kernel
theorem dX7_part_18 : decode cX7_part 18 = .ok (.ifCond .ne 6, 3) := by decide +kernel
theorem dX7_part_21 : decode cX7_part 21 = .ok (.bipush (-2), 2) := by decide +kernel
theorem dX7_part_23 : decode cX7_part 23 = .ok (.ireturn, 1) := by decide +kernel
theorem dX7_part_24 : decode cX7_part 24 = .ok (.aload_n 0, 1) := by decide +kernel
theorem dX7_part_25 : decode cX7_part 25 = .ok (.iload_n 1, 1) := by decide +kernel
theorem dX7_part_26 : decode cX7_part 26 = .ok (.iload_n 2, 1) := by decide +kernel
theorem dX7_part_27 : decode cX7_part 27 = .ok (.iload_n 3, 1) := by decide +kernel
theorem dX7_part_28 : decode cX7_part 28 = .ok (.iload 4, 2) := by decide +kernel
theorem dX7_part_30 : decode cX7_part 30 = .ok (.invokevirtual 82, 3) := by decide +kernel
theorem dX7_part_33 : decode cX7_part 33 = .ok (.istore 5, 2) := by decide +kernel
theorem dX7_part_35 : decode cX7_part 35 = .ok (.iload 5, 2) := by decide +kernel
theorem dX7_part_37 : decode cX7_part 37 = .ok (.ifCond .eq 10, 3) := by decide +kernel
theorem dX7_part_40 : decode cX7_part 40 = .ok (.aload_n 0, 1) := by decide +kernel
theorem dX7_part_41 : decode cX7_part 41 = .ok (.iload 5, 2) := by decide +kernel
theorem dX7_part_43 : decode cX7_part 43 = .ok (.invokevirtual 86, 3) := by decide +kernel
theorem dX7_part_46 : decode cX7_part 46 = .ok (.ireturn, 1) := by decide +kernel
theorem dX7_part_47 : decode cX7_part 47 = .ok (.aload_n 0, 1) := by decide +kernel
theorem dX7_part_48 : decode cX7_part 48 = .ok (.getfield 66, 3) := by decide +kernel
theorem dX7_part_51 : decode cX7_part 51 = .ok (.ifCond .ne 6, 3) := by decide +kernel
theorem dX7_part_54 : decode cX7_part 54 = .ok (.bipush (-3), 2) := by decide +kernel
theorem dX7_part_56 : decode cX7_part 56 = .ok (.ireturn, 1) := by decide +kernel
theorem dX7_part_57 : decode cX7_part 57 = .ok (.bipush 80, 2) := by decide +kernel
theorem dX7_part_59 : decode cX7_part 59 = .ok (.iload_n 1, 1) := by decide +kernel
theorem dX7_part_60 : decode cX7_part 60 = .ok (.imul, 1) := by decide +kernel
theorem dX7_part_61 : decode cX7_part 61 = .ok (.iload_n 3, 1) := by decide +kernel
theorem dX7_part_62 : decode cX7_part 62 = .ok (.iadd, 1) := by decide +kernel
theorem dX7_part_63 : decode cX7_part 63 = .ok (.istore 6, 2) := by decide +kernel
theorem dX7_part_65 : decode cX7_part 65 = .ok (.iload 4, 2) := by decide +kernel
theorem dX7_part_67 : decode cX7_part 67 = .ok (.ifCond .eq 22, 3) := by decide +kernel
theorem dX7_part_70 : decode cX7_part 70 = .ok (.aload_n 0, 1) := by decide +kernel
theorem dX7_part_71 : decode cX7_part 71 = .ok (.iconst 1, 1) := by decide +kernel
theorem dX7_part_72 : decode cX7_part 72 = .ok (.aload_n 0, 1) := by decide +kernel
theorem dX7_part_73 : decode cX7_part 73 = .ok (.getfield 63, 3) := by decide +kernel
theorem dX7_part_76 : decode cX7_part 76 = .ok (.ishl, 1) := by decide +kernel
theorem dX7_part_77 : decode cX7_part 77 = .ok (.iconst 1, 1) := by decide +kernel
theorem dX7_part_78 : decode cX7_part 78 = .ok (.isub, 1) := by decide +kernel
theorem dX7_part_79 : decode cX7_part 79 = .ok (.iload 6, 2) := by decide +kernel
theorem dX7_part_81 : decode cX7_part 81 = .ok (.iload 4, 2) := by decide +kernel
theorem dX7_part_83 : decode cX7_part 83 = .ok (.invokevirtual 187, 3) := by decide +kernel
theorem dX7_part_86 : decode cX7_part 86 = .ok (.ifCond .ne 6, 3) := by decide +kernel
theorem dX7_part_89 : decode cX7_part 89 = .ok (.bipush (-2), 2) := by decide +kernel
theorem dX7_part_91 : decode cX7_part 91 = .ok (.ireturn, 1) := by decide +kernel
theorem dX7_part_92 : decode cX7_part 92 = .ok (.iconst 0, 1) := by decide +kernel
theorem dX7_part_93 : decode cX7_part 93 = .ok (.istore 7, 2) := by decide +kernel
theorem dX7_part_95 : decode cX7_part 95 = .ok (.iconst 0, 1) := by decide +kernel
theorem dX7_part_96 : decode cX7_part 96 = .ok (.istore 8, 2) := by decide +kernel
theorem dX7_part_98 : decode cX7_part 98 = .ok (.iload 8, 2) := by decide +kernel
theorem dX7_part_100 : decode cX7_part 100 = .ok (.aload_n 0, 1) := by decide +kernel
theorem dX7_part_101 : decode cX7_part 101 = .ok (.getfield 66, 3) := by decide +kernel
theorem dX7_part_104 : decode cX7_part 104 = .ok (.if_icmp .ge 35, 3) := by decide +kernel
theorem dX7_part_107 : decode cX7_part 107 = .ok (.iload 7, 2) := by decide +kernel
theorem dX7_part_109 : decode cX7_part 109 = .ok (.aload_n 0, 1) := by decide +kernel
theorem dX7_part_110 : decode cX7_part 110 = .ok (.iload 8, 2) := by decide +kernel
theorem dX7_part_112 : decode cX7_part 112 = .ok (.iload 6, 2) := by decide +kernel
theorem dX7_part_114 : decode cX7_part 114 = .ok (.iload 4, 2) := by decide +kernel
theorem dX7_part_116 : decode cX7_part 116 = .ok (.invokevirtual 194, 3) := by decide +kernel
theorem dX7_part_119 : decode cX7_part 119 = .ok (.ifCond .eq 10, 3) := by decide +kernel
theorem dX7_part_122 : decode cX7_part 122 = .ok (.iconst 1, 1) := by decide +kernel
theorem dX7_part_123 : decode cX7_part 123 = .ok (.iload 8, 2) := by decide +kernel
theorem dX7_part_125 : decode cX7_part 125 = .ok (.ishl, 1) := by decide +kernel
theorem dX7_part_126 : decode cX7_part 126 = .ok (.goto 4, 3) := by decide +kernel
theorem dX7_part_129 : decode cX7_part 129 = .ok (.iconst 0, 1) := by decide +kernel
theorem dX7_part_130 : decode cX7_part 130 = .ok (.ior, 1) := by decide +kernel
theorem dX7_part_131 : decode cX7_part 131 = .ok (.istore 7, 2) := by decide +kernel
theorem dX7_part_133 : decode cX7_part 133 = .ok (.iinc 8 1, 3) := by decide +kernel
theorem dX7_part_136 : decode cX7_part 136 = .ok (.goto (-38), 3) := by decide +kernel
theorem dX7_part_139 : decode cX7_part 139 = .ok (.iload 7, 2) := by decide +kernel
theorem dX7_part_141 : decode cX7_part 141 = .ok (.ireturn, 1) := by decide +kernel
theorem dX7_apartOf_0 : decode cX7_apartOf 0 = .ok (.aload_n 0, 1) := by decide +kernel
theorem dX7_apartOf_1 : decode cX7_apartOf 1 = .ok (.getfield 22, 3) := by decide +kernel
theorem dX7_apartOf_4 : decode cX7_apartOf 4 = .ok (.iload_n 1, 1) := by decide +kernel
theorem dX7_apartOf_5 : decode cX7_apartOf 5 = .ok (.iaload, 1) := by decide +kernel
theorem dX7_apartOf_6 : decode cX7_apartOf 6 = .ok (.aload_n 0, 1) := by decide +kernel
theorem dX7_apartOf_7 : decode cX7_apartOf 7 = .ok (.getfield 22, 3) := by decide +kernel
theorem dX7_apartOf_10 : decode cX7_apartOf 10 = .ok (.iload_n 2, 1) := by decide +kernel
theorem dX7_apartOf_11 : decode cX7_apartOf 11 = .ok (.iaload, 1) := by decide +kernel
theorem dX7_apartOf_12 : decode cX7_apartOf 12 = .ok (.if_icmp .le 12, 3) := by decide +kernel
theorem dX7_apartOf_15 : decode cX7_apartOf 15 = .ok (.aload_n 0, 1) := by decide +kernel
theorem dX7_apartOf_16 : decode cX7_apartOf 16 = .ok (.getfield 22, 3) := by decide +kernel
theorem dX7_apartOf_19 : decode cX7_apartOf 19 = .ok (.iload_n 1, 1) := by decide +kernel
theorem dX7_apartOf_20 : decode cX7_apartOf 20 = .ok (.iaload, 1) := by decide +kernel
theorem dX7_apartOf_21 : decode cX7_apartOf 21 = .ok (.goto 9, 3) := by decide +kernel
theorem dX7_apartOf_24 : decode cX7_apartOf 24 = .ok (.aload_n 0, 1) := by decide +kernel
theorem dX7_apartOf_25 : decode cX7_apartOf 25 = .ok (.getfield 22, 3) := by decide +kernel
theorem dX7_apartOf_28 : decode cX7_apartOf 28 = .ok (.iload_n 2, 1) := by decide +kernel
theorem dX7_apartOf_29 : decode cX7_apartOf 29 = .ok (.iaload, 1) := by decide +kernel
theorem dX7_apartOf_30 : decode cX7_apartOf 30 = .ok (.istore_n 3, 1) := by decide +kernel
theorem dX7_apartOf_31 : decode cX7_apartOf 31 = .ok (.iconst 0, 1) := by decide +kernel
theorem dX7_apartOf_32 : decode cX7_apartOf 32 = .ok (.istore 4, 2) := by decide +kernel
theorem dX7_apartOf_34 : decode cX7_apartOf 34 = .ok (.iconst 0, 1) := by decide +kernel
theorem dX7_apartOf_35 : decode cX7_apartOf 35 = .ok (.istore 5, 2) := by decide +kernel
theorem dX7_apartOf_37 : decode cX7_apartOf 37 = .ok (.iload 5, 2) := by decide +kernel
theorem dX7_apartOf_39 : decode cX7_apartOf 39 = .ok (.iload_n 3, 1) := by decide +kernel
theorem dX7_apartOf_40 : decode cX7_apartOf 40 = .ok (.if_icmp .ge 76, 3) := by decide +kernel
theorem dX7_apartOf_43 : decode cX7_apartOf 43 = .ok (.aload_n 0, 1) := by decide +kernel
theorem dX7_apartOf_44 : decode cX7_apartOf 44 = .ok (.iload_n 1, 1) := by decide +kernel
theorem dX7_apartOf_45 : decode cX7_apartOf 45 = .ok (.iload 5, 2) := by decide +kernel
theorem dX7_apartOf_47 : decode cX7_apartOf 47 = .ok (.invokevirtual 123, 3) := by decide +kernel
theorem dX7_apartOf_50 : decode cX7_apartOf 50 = .ok (.ifCond .eq 17, 3) := by decide +kernel
theorem dX7_apartOf_53 : decode cX7_apartOf 53 = .ok (.aload_n 0, 1) := by decide +kernel
theorem dX7_apartOf_54 : decode cX7_apartOf 54 = .ok (.iload_n 2, 1) := by decide +kernel
theorem dX7_apartOf_55 : decode cX7_apartOf 55 = .ok (.iload 5, 2) := by decide +kernel
theorem dX7_apartOf_57 : decode cX7_apartOf 57 = .ok (.invokevirtual 123, 3) := by decide +kernel
theorem dX7_apartOf_60 : decode cX7_apartOf 60 = .ok (.ifCond .eq 7, 3) := by decide +kernel
theorem dX7_apartOf_63 : decode cX7_apartOf 63 = .ok (.iconst 1, 1) := by decide +kernel
theorem dX7_apartOf_64 : decode cX7_apartOf 64 = .ok (.goto 4, 3) := by decide +kernel
theorem dX7_apartOf_67 : decode cX7_apartOf 67 = .ok (.iconst 0, 1) := by decide +kernel
theorem dX7_apartOf_68 : decode cX7_apartOf 68 = .ok (.istore 6, 2) := by decide +kernel
theorem dX7_apartOf_70 : decode cX7_apartOf 70 = .ok (.iload 4, 2) := by decide +kernel
theorem dX7_apartOf_72 : decode cX7_apartOf 72 = .ok (.iload 6, 2) := by decide +kernel
theorem dX7_apartOf_74 : decode cX7_apartOf 74 = .ok (.ifCond .eq 32, 3) := by decide +kernel
theorem dX7_apartOf_77 : decode cX7_apartOf 77 = .ok (.aload_n 0, 1) := by decide +kernel
theorem dX7_apartOf_78 : decode cX7_apartOf 78 = .ok (.getfield 25, 3) := by decide +kernel
theorem dX7_apartOf_81 : decode cX7_apartOf 81 = .ok (.iload_n 1, 1) := by decide +kernel
theorem dX7_apartOf_82 : decode cX7_apartOf 82 = .ok (.iload 5, 2) := by decide +kernel
theorem dX7_apartOf_84 : decode cX7_apartOf 84 = .ok (.invokestatic 99, 3) := by decide +kernel
theorem dX7_apartOf_87 : decode cX7_apartOf 87 = .ok (.iaload, 1) := by decide +kernel
theorem dX7_apartOf_88 : decode cX7_apartOf 88 = .ok (.aload_n 0, 1) := by decide +kernel
theorem dX7_apartOf_89 : decode cX7_apartOf 89 = .ok (.getfield 25, 3) := by decide +kernel
theorem dX7_apartOf_92 : decode cX7_apartOf 92 = .ok (.iload_n 2, 1) := by decide +kernel
theorem dX7_apartOf_93 : decode cX7_apartOf 93 = .ok (.iload 5, 2) := by decide +kernel
theorem dX7_apartOf_95 : decode cX7_apartOf 95 = .ok (.invokestatic 99, 3) := by decide +kernel
theorem dX7_apartOf_98 : decode cX7_apartOf 98 = .ok (.iaload, 1) := by decide +kernel
theorem dX7_apartOf_99 : decode cX7_apartOf 99 = .ok (.if_icmp .ne 7, 3) := by decide +kernel
theorem dX7_apartOf_102 : decode cX7_apartOf 102 = .ok (.iconst 0, 1) := by decide +kernel
theorem dX7_apartOf_103 : decode cX7_apartOf 103 = .ok (.goto 4, 3) := by decide +kernel
theorem dX7_apartOf_106 : decode cX7_apartOf 106 = .ok (.iconst 1, 1) := by decide +kernel
theorem dX7_apartOf_107 : decode cX7_apartOf 107 = .ok (.iadd, 1) := by decide +kernel
theorem dX7_apartOf_108 : decode cX7_apartOf 108 = .ok (.istore 4, 2) := by decide +kernel
theorem dX7_apartOf_110 : decode cX7_apartOf 110 = .ok (.iinc 5 1, 3) := by decide +kernel
theorem dX7_apartOf_113 : decode cX7_apartOf 113 = .ok (.goto (-76), 3) := by decide +kernel
theorem dX7_apartOf_116 : decode cX7_apartOf 116 = .ok (.iload 4, 2) := by decide +kernel
theorem dX7_apartOf_118 : decode cX7_apartOf 118 = .ok (.ireturn, 1) := by decide +kernel
theorem dX7_apart_0 : decode cX7_apart 0 = .ok (.aload_n 0, 1) := by decide +kernel
theorem dX7_apart_1 : decode cX7_apart 1 = .ok (.iload_n 1, 1) := by decide +kernel
theorem dX7_apart_2 : decode cX7_apart 2 = .ok (.invokevirtual 69, 3) := by decide +kernel
theorem dX7_apart_5 : decode cX7_apart 5 = .ok (.ifCond .eq 20, 3) := by decide +kernel
theorem dX7_apart_8 : decode cX7_apart 8 = .ok (.aload_n 0, 1) := by decide +kernel
theorem dX7_apart_9 : decode cX7_apart 9 = .ok (.iload_n 2, 1) := by decide +kernel
theorem dX7_apart_10 : decode cX7_apart 10 = .ok (.invokevirtual 69, 3) := by decide +kernel
theorem dX7_apart_13 : decode cX7_apart 13 = .ok (.ifCond .eq 12, 3) := by decide +kernel
theorem dX7_apart_16 : decode cX7_apart 16 = .ok (.aload_n 0, 1) := by decide +kernel
theorem dX7_apart_17 : decode cX7_apart 17 = .ok (.iload_n 1, 1) := by decide +kernel
theorem dX7_apart_18 : decode cX7_apart 18 = .ok (.iload_n 2, 1) := by decide +kernel
theorem dX7_apart_19 : decode cX7_apart 19 = .ok (.invokevirtual 197, 3) := by decide +kernel
theorem dX7_apart_22 : decode cX7_apart 22 = .ok (.goto 4, 3) := by decide +kernel
theorem dX7_apart_25 : decode cX7_apart 25 = .ok (.iconst (-1), 1) := by decide +kernel
theorem dX7_apart_26 : decode cX7_apart 26 = .ok (.ireturn, 1) := by decide +kernel
theorem dX7_nearest_0 : decode cX7_nearest 0 = .ok (.aload_n 0, 1) := by decide +kernel
theorem dX7_nearest_1 : decode cX7_nearest 1 = .ok (.iload_n 1, 1) := by decide +kernel
theorem dX7_nearest_2 : decode cX7_nearest 2 = .ok (.invokevirtual 69, 3) := by decide +kernel
theorem dX7_nearest_5 : decode cX7_nearest 5 = .ok (.ifCond .ne 5, 3) := by decide +kernel
theorem dX7_nearest_8 : decode cX7_nearest 8 = .ok (.iconst (-1), 1) := by decide +kernel
theorem dX7_nearest_9 : decode cX7_nearest 9 = .ok (.ireturn, 1) := by decide +kernel
theorem dX7_nearest_10 : decode cX7_nearest 10 = .ok (.bipush (-9), 2) := by decide +kernel
theorem dX7_nearest_12 : decode cX7_nearest 12 = .ok (.istore_n 2, 1) := by decide +kernel
theorem dX7_nearest_13 : decode cX7_nearest 13 = .ok (.iconst 0, 1) := by decide +kernel
theorem dX7_nearest_14 : decode cX7_nearest 14 = .ok (.istore_n 3, 1) := by decide +kernel
theorem dX7_nearest_15 : decode cX7_nearest 15 = .ok (.iload_n 3, 1) := by decide +kernel
theorem dX7_nearest_16 : decode cX7_nearest 16 = .ok (.aload_n 0, 1) := by decide +kernel
theorem dX7_nearest_17 : decode cX7_nearest 17 = .ok (.getfield 66, 3) := by decide +kernel
theorem dX7_nearest_20 : decode cX7_nearest 20 = .ok (.if_icmp .ge 53, 3) := by decide +kernel
theorem dX7_nearest_23 : decode cX7_nearest 23 = .ok (.iload_n 3, 1) := by decide +kernel
theorem dX7_nearest_24 : decode cX7_nearest 24 = .ok (.iload_n 1, 1) := by decide +kernel
theorem dX7_nearest_25 : decode cX7_nearest 25 = .ok (.if_icmp .eq 28, 3) := by decide +kernel
theorem dX7_nearest_28 : decode cX7_nearest 28 = .ok (.iload_n 2, 1) := by decide +kernel
theorem dX7_nearest_29 : decode cX7_nearest 29 = .ok (.bipush (-9), 2) := by decide +kernel
theorem dX7_nearest_31 : decode cX7_nearest 31 = .ok (.if_icmp .eq 18, 3) := by decide +kernel
theorem dX7_nearest_34 : decode cX7_nearest 34 = .ok (.aload_n 0, 1) := by decide +kernel
theorem dX7_nearest_35 : decode cX7_nearest 35 = .ok (.iload_n 1, 1) := by decide +kernel
theorem dX7_nearest_36 : decode cX7_nearest 36 = .ok (.iload_n 3, 1) := by decide +kernel
theorem dX7_nearest_37 : decode cX7_nearest 37 = .ok (.invokevirtual 197, 3) := by decide +kernel
theorem dX7_nearest_40 : decode cX7_nearest 40 = .ok (.aload_n 0, 1) := by decide +kernel
theorem dX7_nearest_41 : decode cX7_nearest 41 = .ok (.iload_n 1, 1) := by decide +kernel
theorem dX7_nearest_42 : decode cX7_nearest 42 = .ok (.iload_n 2, 1) := by decide +kernel
theorem dX7_nearest_43 : decode cX7_nearest 43 = .ok (.invokevirtual 197, 3) := by decide +kernel
theorem dX7_nearest_46 : decode cX7_nearest 46 = .ok (.if_icmp .ge 7, 3) := by decide +kernel
theorem dX7_nearest_49 : decode cX7_nearest 49 = .ok (.iconst 1, 1) := by decide +kernel
theorem dX7_nearest_50 : decode cX7_nearest 50 = .ok (.goto 4, 3) := by decide +kernel
theorem dX7_nearest_53 : decode cX7_nearest 53 = .ok (.iconst 0, 1) := by decide +kernel
theorem dX7_nearest_54 : decode cX7_nearest 54 = .ok (.istore 4, 2) := by decide +kernel
theorem dX7_nearest_56 : decode cX7_nearest 56 = .ok (.iload 4, 2) := by decide +kernel
theorem dX7_nearest_58 : decode cX7_nearest 58 = .ok (.ifCond .eq 7, 3) := by decide +kernel
theorem dX7_nearest_61 : decode cX7_nearest 61 = .ok (.iload_n 3, 1) := by decide +kernel
theorem dX7_nearest_62 : decode cX7_nearest 62 = .ok (.goto 4, 3) := by decide +kernel
theorem dX7_nearest_65 : decode cX7_nearest 65 = .ok (.iload_n 2, 1) := by decide +kernel
theorem dX7_nearest_66 : decode cX7_nearest 66 = .ok (.istore_n 2, 1) := by decide +kernel
theorem dX7_nearest_67 : decode cX7_nearest 67 = .ok (.iinc 3 1, 3) := by decide +kernel
theorem dX7_nearest_70 : decode cX7_nearest 70 = .ok (.goto (-55), 3) := by decide +kernel
theorem dX7_nearest_73 : decode cX7_nearest 73 = .ok (.iload_n 2, 1) := by decide +kernel
theorem dX7_nearest_74 : decode cX7_nearest 74 = .ok (.ireturn, 1) := by decide +kernel
theorem dX7_begins_0 : decode cX7_begins 0 = .ok (.iconst 0, 1) := by decide +kernel
theorem dX7_begins_1 : decode cX7_begins 1 = .ok (.istore_n 3, 1) := by decide +kernel
theorem dX7_begins_2 : decode cX7_begins 2 = .ok (.iload_n 3, 1) := by decide +kernel
theorem dX7_begins_3 : decode cX7_begins 3 = .ok (.aload_n 0, 1) := by decide +kernel
theorem dX7_begins_4 : decode cX7_begins 4 = .ok (.getfield 22, 3) := by decide +kernel
theorem dX7_begins_7 : decode cX7_begins 7 = .ok (.iload_n 1, 1) := by decide +kernel
theorem dX7_begins_8 : decode cX7_begins 8 = .ok (.iaload, 1) := by decide +kernel
theorem dX7_begins_9 : decode cX7_begins 9 = .ok (.if_icmp .ge 43, 3) := by decide +kernel
theorem dX7_begins_12 : decode cX7_begins 12 = .ok (.aload_n 0, 1) := by decide +kernel
theorem dX7_begins_13 : decode cX7_begins 13 = .ok (.iload_n 2, 1) := by decide +kernel
theorem dX7_begins_14 : decode cX7_begins 14 = .ok (.iload_n 3, 1) := by decide +kernel
theorem dX7_begins_15 : decode cX7_begins 15 = .ok (.invokevirtual 123, 3) := by decide +kernel
theorem dX7_begins_18 : decode cX7_begins 18 = .ok (.ifCond .eq 26, 3) := by decide +kernel
theorem dX7_begins_21 : decode cX7_begins 21 = .ok (.aload_n 0, 1) := by decide +kernel
theorem dX7_begins_22 : decode cX7_begins 22 = .ok (.getfield 25, 3) := by decide +kernel
theorem dX7_begins_25 : decode cX7_begins 25 = .ok (.iload_n 1, 1) := by decide +kernel
theorem dX7_begins_26 : decode cX7_begins 26 = .ok (.iload_n 3, 1) := by decide +kernel
theorem dX7_begins_27 : decode cX7_begins 27 = .ok (.invokestatic 99, 3) := by decide +kernel
theorem dX7_begins_30 : decode cX7_begins 30 = .ok (.iaload, 1) := by decide +kernel
theorem dX7_begins_31 : decode cX7_begins 31 = .ok (.aload_n 0, 1) := by decide +kernel
theorem dX7_begins_32 : decode cX7_begins 32 = .ok (.getfield 25, 3) := by decide +kernel
theorem dX7_begins_35 : decode cX7_begins 35 = .ok (.iload_n 2, 1) := by decide +kernel
theorem dX7_begins_36 : decode cX7_begins 36 = .ok (.iload_n 3, 1) := by decide +kernel
theorem dX7_begins_37 : decode cX7_begins 37 = .ok (.invokestatic 99, 3) := by decide +kernel
theorem dX7_begins_40 : decode cX7_begins 40 = .ok (.iaload, 1) := by decide +kernel
theorem dX7_begins_41 : decode cX7_begins 41 = .ok (.if_icmp .eq 5, 3) := by decide +kernel
theorem dX7_begins_44 : decode cX7_begins 44 = .ok (.iconst 0, 1) := by decide +kernel
theorem dX7_begins_45 : decode cX7_begins 45 = .ok (.ireturn, 1) := by decide +kernel
theorem dX7_begins_46 : decode cX7_begins 46 = .ok (.iinc 3 1, 3) := by decide +kernel
theorem dX7_begins_49 : decode cX7_begins 49 = .ok (.goto (-47), 3) := by decide +kernel
theorem dX7_begins_52 : decode cX7_begins 52 = .ok (.iconst 1, 1) := by decide +kernel
theorem dX7_begins_53 : decode cX7_begins 53 = .ok (.ireturn, 1) := by decide +kernel
theorem dX7_safe_0 : decode cX7_safe 0 = .ok (.aload_n 0, 1) := by decide +kernel
theorem dX7_safe_1 : decode cX7_safe 1 = .ok (.getfield 66, 3) := by decide +kernel
theorem dX7_safe_4 : decode cX7_safe 4 = .ok (.ifCond .ne 6, 3) := by decide +kernel
theorem dX7_safe_7 : decode cX7_safe 7 = .ok (.bipush (-3), 2) := by decide +kernel
theorem dX7_safe_9 : decode cX7_safe 9 = .ok (.ireturn, 1) := by decide +kernel
theorem dX7_safe_10 : decode cX7_safe 10 = .ok (.iconst 0, 1) := by decide +kernel
theorem dX7_safe_11 : decode cX7_safe 11 = .ok (.istore_n 1, 1) := by decide +kernel
theorem dX7_safe_12 : decode cX7_safe 12 = .ok (.iload_n 1, 1) := by decide +kernel
theorem dX7_safe_13 : decode cX7_safe 13 = .ok (.aload_n 0, 1) := by decide +kernel
theorem dX7_safe_14 : decode cX7_safe 14 = .ok (.getfield 66, 3) := by decide +kernel
theorem dX7_safe_17 : decode cX7_safe 17 = .ok (.if_icmp .ge 41, 3) := by decide +kernel
theorem dX7_safe_20 : decode cX7_safe 20 = .ok (.iconst 0, 1) := by decide +kernel
theorem dX7_safe_21 : decode cX7_safe 21 = .ok (.istore_n 2, 1) := by decide +kernel
theorem dX7_safe_22 : decode cX7_safe 22 = .ok (.iload_n 2, 1) := by decide +kernel
theorem dX7_safe_23 : decode cX7_safe 23 = .ok (.aload_n 0, 1) := by decide +kernel
theorem dX7_safe_24 : decode cX7_safe 24 = .ok (.getfield 66, 3) := by decide +kernel
theorem dX7_safe_27 : decode cX7_safe 27 = .ok (.if_icmp .ge 25, 3) := by decide +kernel
theorem dX7_safe_30 : decode cX7_safe 30 = .ok (.iload_n 1, 1) := by decide +kernel
theorem dX7_safe_31 : decode cX7_safe 31 = .ok (.iload_n 2, 1) := by decide +kernel
theorem dX7_safe_32 : decode cX7_safe 32 = .ok (.if_icmp .eq 14, 3) := by decide +kernel
theorem dX7_safe_35 : decode cX7_safe 35 = .ok (.aload_n 0, 1) := by decide +kernel
theorem dX7_safe_36 : decode cX7_safe 36 = .ok (.iload_n 1, 1) := by decide +kernel
theorem dX7_safe_37 : decode cX7_safe 37 = .ok (.iload_n 2, 1) := by decide +kernel
theorem dX7_safe_38 : decode cX7_safe 38 = .ok (.invokevirtual 200, 3) := by decide +kernel
theorem dX7_safe_41 : decode cX7_safe 41 = .ok (.ifCond .eq 5, 3) := by decide +kernel
theorem dX7_safe_44 : decode cX7_safe 44 = .ok (.iconst 0, 1) := by decide +kernel
theorem dX7_safe_45 : decode cX7_safe 45 = .ok (.ireturn, 1) := by decide +kernel
theorem dX7_safe_46 : decode cX7_safe 46 = .ok (.iinc 2 1, 3) := by decide +kernel
theorem dX7_safe_49 : decode cX7_safe 49 = .ok (.goto (-27), 3) := by decide +kernel
theorem dX7_safe_52 : decode cX7_safe 52 = .ok (.iinc 1 1, 3) := by decide +kernel
theorem dX7_safe_55 : decode cX7_safe 55 = .ok (.goto (-43), 3) := by decide +kernel
theorem dX7_safe_58 : decode cX7_safe 58 = .ok (.iconst 1, 1) := by decide +kernel
theorem dX7_safe_59 : decode cX7_safe 59 = .ok (.ireturn, 1) := by decide +kernel
theorem dX7_sheet_0 : decode cX7_sheet 0 = .ok (.aload_n 0, 1) := by decide +kernel
theorem dX7_sheet_1 : decode cX7_sheet 1 = .ok (.iconst 0, 1) := by decide +kernel
theorem dX7_sheet_2 : decode cX7_sheet 2 = .ok (.putfield 53, 3) := by decide +kernel
theorem dX7_sheet_5 : decode cX7_sheet 5 = .ok (.iload_n 1, 1) := by decide +kernel
theorem dX7_sheet_6 : decode cX7_sheet 6 = .ok (.invokestatic 76, 3) := by decide +kernel
theorem dX7_sheet_9 : decode cX7_sheet 9 = .ok (.ifCond .ne 5, 3) := by decide +kernel
theorem dX7_sheet_12 : decode cX7_sheet 12 = .ok (.iconst (-1), 1) := by decide +kernel
theorem dX7_sheet_13 : decode cX7_sheet 13 = .ok (.ireturn, 1) := by decide +kernel
theorem dX7_sheet_14 : decode cX7_sheet 14 = .ok (.iload_n 2, 1) := by decide +kernel
theorem dX7_sheet_15 : decode cX7_sheet 15 = .ok (.invokestatic 79, 3) := by decide +kernel
theorem dX7_sheet_18 : decode cX7_sheet 18 = .ok (.ifCond .eq 9, 3) := by decide +kernel
theorem dX7_sheet_21 : decode cX7_sheet 21 = .ok (.iload_n 3, 1) := by decide +kernel
theorem dX7_sheet_22 : decode cX7_sheet 22 = .ok (.bipush 80, 2) := by decide +kernel
theorem dX7_sheet_24 : decode cX7_sheet 24 = .ok (.if_icmp .le 6, 3) := by decide +kernel
theorem dX7_sheet_27 : decode cX7_sheet 27 = .ok (.bipush (-2), 2) := by decide +kernel
theorem dX7_sheet_29 : decode cX7_sheet 29 = .ok (.ireturn, 1) := by decide +kernel
theorem dX7_sheet_30 : decode cX7_sheet 30 = .ok (.iload_n 3, 1) := by decide +kernel
theorem dX7_sheet_31 : decode cX7_sheet 31 = .ok (.ifCond .ge 9, 3) := by decide +kernel
theorem dX7_sheet_34 : decode cX7_sheet 34 = .ok (.aload_n 0, 1) := by decide +kernel
theorem dX7_sheet_35 : decode cX7_sheet 35 = .ok (.iconst 4, 1) := by decide +kernel
theorem dX7_sheet_36 : decode cX7_sheet 36 = .ok (.invokevirtual 86, 3) := by decide +kernel
theorem dX7_sheet_39 : decode cX7_sheet 39 = .ok (.ireturn, 1) := by decide +kernel
theorem dX7_sheet_40 : decode cX7_sheet 40 = .ok (.aload_n 0, 1) := by decide +kernel
theorem dX7_sheet_41 : decode cX7_sheet 41 = .ok (.getfield 9, 3) := by decide +kernel
theorem dX7_sheet_44 : decode cX7_sheet 44 = .ok (.iload_n 1, 1) := by decide +kernel
theorem dX7_sheet_45 : decode cX7_sheet 45 = .ok (.iload_n 2, 1) := by decide +kernel
theorem dX7_sheet_46 : decode cX7_sheet 46 = .ok (.iastore, 1) := by decide +kernel
theorem dX7_sheet_47 : decode cX7_sheet 47 = .ok (.aload_n 0, 1) := by decide +kernel
theorem dX7_sheet_48 : decode cX7_sheet 48 = .ok (.getfield 13, 3) := by decide +kernel
theorem dX7_sheet_51 : decode cX7_sheet 51 = .ok (.iload_n 1, 1) := by decide +kernel
theorem dX7_sheet_52 : decode cX7_sheet 52 = .ok (.iload_n 3, 1) := by decide +kernel
theorem dX7_sheet_53 : decode cX7_sheet 53 = .ok (.iastore, 1) := by decide +kernel
theorem dX7_sheet_54 : decode cX7_sheet 54 = .ok (.iconst 0, 1) := by decide +kernel
theorem dX7_sheet_55 : decode cX7_sheet 55 = .ok (.istore 4, 2) := by decide +kernel
theorem dX7_sheet_57 : decode cX7_sheet 57 = .ok (.iload 4, 2) := by decide +kernel
theorem dX7_sheet_59 : decode cX7_sheet 59 = .ok (.bipush 80, 2) := by decide +kernel
theorem dX7_sheet_61 : decode cX7_sheet 61 = .ok (.if_icmp .ge 22, 3) := by decide +kernel
theorem dX7_sheet_64 : decode cX7_sheet 64 = .ok (.aload_n 0, 1) := by decide +kernel
theorem dX7_sheet_65 : decode cX7_sheet 65 = .ok (.getfield 16, 3) := by decide +kernel
theorem dX7_sheet_68 : decode cX7_sheet 68 = .ok (.bipush 80, 2) := by decide +kernel
theorem dX7_sheet_70 : decode cX7_sheet 70 = .ok (.iload_n 1, 1) := by decide +kernel
theorem dX7_sheet_71 : decode cX7_sheet 71 = .ok (.imul, 1) := by decide +kernel
theorem dX7_sheet_72 : decode cX7_sheet 72 = .ok (.iload 4, 2) := by decide +kernel
theorem dX7_sheet_74 : decode cX7_sheet 74 = .ok (.iadd, 1) := by decide +kernel
theorem dX7_sheet_75 : decode cX7_sheet 75 = .ok (.iconst 0, 1) := by decide +kernel
theorem dX7_sheet_76 : decode cX7_sheet 76 = .ok (.iastore, 1) := by decide +kernel
theorem dX7_sheet_77 : decode cX7_sheet 77 = .ok (.iinc 4 1, 3) := by decide +kernel
theorem dX7_sheet_80 : decode cX7_sheet 80 = .ok (.goto (-23), 3) := by decide +kernel
theorem dX7_sheet_83 : decode cX7_sheet 83 = .ok (.iconst 1, 1) := by decide +kernel
theorem dX7_sheet_84 : decode cX7_sheet 84 = .ok (.ireturn, 1) := by decide +kernel
theorem dX7_lose_0 : decode cX7_lose 0 = .ok (.iload_n 1, 1) := by decide +kernel
theorem dX7_lose_1 : decode cX7_lose 1 = .ok (.invokestatic 76, 3) := by decide +kernel
theorem dX7_lose_4 : decode cX7_lose 4 = .ok (.ifCond .ne 5, 3) := by decide +kernel
theorem dX7_lose_7 : decode cX7_lose 7 = .ok (.iconst (-1), 1) := by decide +kernel
theorem dX7_lose_8 : decode cX7_lose 8 = .ok (.ireturn, 1) := by decide +kernel
theorem dX7_lose_9 : decode cX7_lose 9 = .ok (.aload_n 0, 1) := by decide +kernel
theorem dX7_lose_10 : decode cX7_lose 10 = .ok (.getfield 9, 3) := by decide +kernel
theorem dX7_lose_13 : decode cX7_lose 13 = .ok (.iload_n 1, 1) := by decide +kernel
theorem dX7_lose_14 : decode cX7_lose 14 = .ok (.iaload, 1) := by decide +kernel
theorem dX7_lose_15 : decode cX7_lose 15 = .ok (.bipush (-9), 2) := by decide +kernel
theorem dX7_lose_17 : decode cX7_lose 17 = .ok (.if_icmp .ne 7, 3) := by decide +kernel
theorem dX7_lose_20 : decode cX7_lose 20 = .ok (.iconst 0, 1) := by decide +kernel
theorem dX7_lose_21 : decode cX7_lose 21 = .ok (.goto 4, 3) := by decide +kernel
theorem dX7_lose_24 : decode cX7_lose 24 = .ok (.iconst 1, 1) := by decide +kernel
theorem dX7_lose_25 : decode cX7_lose 25 = .ok (.istore_n 2, 1) := by decide +kernel
theorem dX7_lose_26 : decode cX7_lose 26 = .ok (.aload_n 0, 1) := by decide +kernel
theorem dX7_lose_27 : decode cX7_lose 27 = .ok (.getfield 9, 3) := by decide +kernel
theorem dX7_lose_30 : decode cX7_lose 30 = .ok (.iload_n 1, 1) := by decide +kernel
theorem dX7_lose_31 : decode cX7_lose 31 = .ok (.bipush (-9), 2) := by decide +kernel
theorem dX7_lose_33 : decode cX7_lose 33 = .ok (.iastore, 1) := by decide +kernel
theorem dX7_lose_34 : decode cX7_lose 34 = .ok (.iload_n 2, 1) := by decide +kernel
theorem dX7_lose_35 : decode cX7_lose 35 = .ok (.ireturn, 1) := by decide +kernel
theorem dX7_put_0 : decode cX7_put 0 = .ok (.aload_n 0, 1) := by decide +kernel
theorem dX7_put_1 : decode cX7_put 1 = .ok (.iconst 0, 1) := by decide +kernel
theorem dX7_put_2 : decode cX7_put 2 = .ok (.putfield 53, 3) := by decide +kernel
theorem dX7_put_5 : decode cX7_put 5 = .ok (.iload_n 1, 1) := by decide +kernel
theorem dX7_put_6 : decode cX7_put 6 = .ok (.invokestatic 76, 3) := by decide +kernel
theorem dX7_put_9 : decode cX7_put 9 = .ok (.ifCond .ne 5, 3) := by decide +kernel
theorem dX7_put_12 : decode cX7_put 12 = .ok (.iconst (-1), 1) := by decide +kernel
theorem dX7_put_13 : decode cX7_put 13 = .ok (.ireturn, 1) := by decide +kernel
theorem dX7_put_14 : decode cX7_put 14 = .ok (.aload_n 0, 1) := by decide +kernel
theorem dX7_put_15 : decode cX7_put 15 = .ok (.getfield 9, 3) := by decide +kernel
theorem dX7_put_18 : decode cX7_put 18 = .ok (.iload_n 1, 1) := by decide +kernel
theorem dX7_put_19 : decode cX7_put 19 = .ok (.iaload, 1) := by decide +kernel
theorem dX7_put_20 : decode cX7_put 20 = .ok (.bipush (-9), 2) := by decide +kernel
theorem dX7_put_22 : decode cX7_put 22 = .ok (.if_icmp .ne 9, 3) := by decide +kernel
theorem dX7_put_25 : decode cX7_put 25 = .ok (.aload_n 0, 1) := by decide +kernel
theorem dX7_put_26 : decode cX7_put 26 = .ok (.iconst 1, 1) := by decide +kernel
theorem dX7_put_27 : decode cX7_put 27 = .ok (.invokevirtual 86, 3) := by decide +kernel
theorem dX7_put_30 : decode cX7_put 30 = .ok (.ireturn, 1) := by decide +kernel
theorem dX7_put_31 : decode cX7_put 31 = .ok (.iload_n 2, 1) := by decide +kernel
theorem dX7_put_32 : decode cX7_put 32 = .ok (.iconst 0, 1) := by decide +kernel
theorem dX7_put_33 : decode cX7_put 33 = .ok (.aload_n 0, 1) := by decide +kernel
theorem dX7_put_34 : decode cX7_put 34 = .ok (.getfield 13, 3) := by decide +kernel
theorem dX7_put_37 : decode cX7_put 37 = .ok (.iload_n 1, 1) := by decide +kernel
theorem dX7_put_38 : decode cX7_put 38 = .ok (.iaload, 1) := by decide +kernel
theorem dX7_put_39 : decode cX7_put 39 = .ok (.iconst 1, 1) := by decide +kernel
theorem dX7_put_40 : decode cX7_put 40 = .ok (.isub, 1) := by decide +kernel
theorem dX7_put_41 : decode cX7_put 41 = .ok (.invokestatic 59, 3) := by decide +kernel
theorem dX7_put_44 : decode cX7_put 44 = .ok (.ifCond .ne 9, 3) := by decide +kernel
theorem dX7_put_47 : decode cX7_put 47 = .ok (.aload_n 0, 1) := by decide +kernel
theorem dX7_put_48 : decode cX7_put 48 = .ok (.iconst 3, 1) := by decide +kernel
theorem dX7_put_49 : decode cX7_put 49 = .ok (.invokevirtual 86, 3) := by decide +kernel
theorem dX7_put_52 : decode cX7_put 52 = .ok (.ireturn, 1) := by decide +kernel
theorem dX7_put_53 : decode cX7_put 53 = .ok (.aload_n 0, 1) := by decide +kernel
theorem dX7_put_54 : decode cX7_put 54 = .ok (.getfield 16, 3) := by decide +kernel
theorem dX7_put_57 : decode cX7_put 57 = .ok (.bipush 80, 2) := by decide +kernel
theorem dX7_put_59 : decode cX7_put 59 = .ok (.iload_n 1, 1) := by decide +kernel
theorem dX7_put_60 : decode cX7_put 60 = .ok (.imul, 1) := by decide +kernel
theorem dX7_put_61 : decode cX7_put 61 = .ok (.iload_n 2, 1) := by decide +kernel
theorem dX7_put_62 : decode cX7_put 62 = .ok (.iadd, 1) := by decide +kernel
theorem dX7_put_63 : decode cX7_put 63 = .ok (.aload_n 0, 1) := by decide +kernel
theorem dX7_put_64 : decode cX7_put 64 = .ok (.getfield 9, 3) := by decide +kernel
theorem dX7_put_67 : decode cX7_put 67 = .ok (.iload_n 1, 1) := by decide +kernel
theorem dX7_put_68 : decode cX7_put 68 = .ok (.iaload, 1) := by decide +kernel
theorem dX7_put_69 : decode cX7_put 69 = .ok (.ifCond .ne 8, 3) := by decide +kernel
theorem dX7_put_72 : decode cX7_put 72 = .ok (.iload_n 3, 1) := by decide +kernel
theorem dX7_put_73 : decode cX7_put 73 = .ok (.i2b, 1) := by decide +kernel
theorem dX7_put_74 : decode cX7_put 74 = .ok (.goto 19, 3) := by decide +kernel
theorem dX7_put_77 : decode cX7_put 77 = .ok (.aload_n 0, 1) := by decide +kernel
theorem dX7_put_78 : decode cX7_put 78 = .ok (.getfield 9, 3) := by decide +kernel
theorem dX7_put_81 : decode cX7_put 81 = .ok (.iload_n 1, 1) := by decide +kernel
theorem dX7_put_82 : decode cX7_put 82 = .ok (.iaload, 1) := by decide +kernel
theorem dX7_put_83 : decode cX7_put 83 = .ok (.iconst 1, 1) := by decide +kernel
theorem dX7_put_84 : decode cX7_put 84 = .ok (.if_icmp .ne 8, 3) := by decide +kernel
theorem dX7_put_87 : decode cX7_put 87 = .ok (.iload_n 3, 1) := by decide +kernel
theorem dX7_put_88 : decode cX7_put 88 = .ok (.i2s, 1) := by decide +kernel
theorem dX7_put_89 : decode cX7_put 89 = .ok (.goto 4, 3) := by decide +kernel
theorem dX7_put_92 : decode cX7_put 92 = .ok (.iload_n 3, 1) := by decide +kernel
theorem dX7_put_93 : decode cX7_put 93 = .ok (.iastore, 1) := by decide +kernel
theorem dX7_put_94 : decode cX7_put 94 = .ok (.iconst 1, 1) := by decide +kernel
theorem dX7_put_95 : decode cX7_put 95 = .ok (.ireturn, 1) := by decide +kernel
theorem dX7_cell_0 : decode cX7_cell 0 = .ok (.aload_n 0, 1) := by decide +kernel
theorem dX7_cell_1 : decode cX7_cell 1 = .ok (.iconst 0, 1) := by decide +kernel
theorem dX7_cell_2 : decode cX7_cell 2 = .ok (.putfield 53, 3) := by decide +kernel
theorem dX7_cell_5 : decode cX7_cell 5 = .ok (.iload_n 1, 1) := by decide +kernel
theorem dX7_cell_6 : decode cX7_cell 6 = .ok (.invokestatic 76, 3) := by decide +kernel
theorem dX7_cell_9 : decode cX7_cell 9 = .ok (.ifCond .eq 10, 3) := by decide +kernel
theorem dX7_cell_12 : decode cX7_cell 12 = .ok (.iload_n 3, 1) := by decide +kernel
theorem dX7_cell_13 : decode cX7_cell 13 = .ok (.invokestatic 79, 3) := by decide +kernel
theorem dX7_cell_16 : decode cX7_cell 16 = .ok (.ifCond .ne 7, 3) := by decide +kernel
theorem dX7_cell_19 : decode cX7_cell 19 = .ok (.ldc2_w 57, 3) := by decide +kernel
theorem dX7_cell_22 : decode cX7_cell 22 = .ok (.lreturn, 1) := by decide +kernel
theorem dX7_cell_23 : decode cX7_cell 23 = .ok (.aload_n 0, 1) := by decide +kernel
theorem dX7_cell_24 : decode cX7_cell 24 = .ok (.getfield 9, 3) := by decide +kernel
theorem dX7_cell_27 : decode cX7_cell 27 = .ok (.iload_n 1, 1) := by decide +kernel
theorem dX7_cell_28 : decode cX7_cell 28 = .ok (.iaload, 1) := by decide +kernel
theorem dX7_cell_29 : decode cX7_cell 29 = .ok (.bipush (-9), 2) := by decide +kernel
theorem dX7_cell_31 : decode cX7_cell 31 = .ok (.if_icmp .eq 19, 3) := by decide +kernel
theorem dX7_cell_34 : decode cX7_cell 34 = .ok (.aload_n 0, 1) := by decide +kernel
theorem dX7_cell_35 : decode cX7_cell 35 = .ok (.getfield 9, 3) := by decide +kernel
theorem dX7_cell_38 : decode cX7_cell 38 = .ok (.iload_n 1, 1) := by decide +kernel
theorem dX7_cell_39 : decode cX7_cell 39 = .ok (.iaload, 1) := by decide +kernel
theorem dX7_cell_40 : decode cX7_cell 40 = .ok (.iload_n 3, 1) := by decide +kernel
theorem dX7_cell_41 : decode cX7_cell 41 = .ok (.if_icmp .eq 9, 3) := by decide +kernel
theorem dX7_cell_44 : decode cX7_cell 44 = .ok (.aload_n 0, 1) := by decide +kernel
theorem dX7_cell_45 : decode cX7_cell 45 = .ok (.iconst 2, 1) := by decide +kernel
theorem dX7_cell_46 : decode cX7_cell 46 = .ok (.invokevirtual 203, 3) := by decide +kernel
theorem dX7_cell_49 : decode cX7_cell 49 = .ok (.lreturn, 1) := by decide +kernel
theorem dX7_cell_50 : decode cX7_cell 50 = .ok (.aload_n 0, 1) := by decide +kernel
theorem dX7_cell_51 : decode cX7_cell 51 = .ok (.getfield 9, 3) := by decide +kernel
theorem dX7_cell_54 : decode cX7_cell 54 = .ok (.iload_n 1, 1) := by decide +kernel
theorem dX7_cell_55 : decode cX7_cell 55 = .ok (.iaload, 1) := by decide +kernel
theorem dX7_cell_56 : decode cX7_cell 56 = .ok (.bipush (-9), 2) := by decide +kernel
theorem dX7_cell_58 : decode cX7_cell 58 = .ok (.if_icmp .ne 9, 3) := by decide +kernel
theorem dX7_cell_61 : decode cX7_cell 61 = .ok (.aload_n 0, 1) := by decide +kernel
theorem dX7_cell_62 : decode cX7_cell 62 = .ok (.iconst 1, 1) := by decide +kernel
theorem dX7_cell_63 : decode cX7_cell 63 = .ok (.invokevirtual 203, 3) := by decide +kernel
theorem dX7_cell_66 : decode cX7_cell 66 = .ok (.lreturn, 1) := by decide +kernel
theorem dX7_cell_67 : decode cX7_cell 67 = .ok (.iload_n 2, 1) := by decide +kernel
theorem dX7_cell_68 : decode cX7_cell 68 = .ok (.iconst 0, 1) := by decide +kernel
theorem dX7_cell_69 : decode cX7_cell 69 = .ok (.aload_n 0, 1) := by decide +kernel
theorem dX7_cell_70 : decode cX7_cell 70 = .ok (.getfield 13, 3) := by decide +kernel
theorem dX7_cell_73 : decode cX7_cell 73 = .ok (.iload_n 1, 1) := by decide +kernel
theorem dX7_cell_74 : decode cX7_cell 74 = .ok (.iaload, 1) := by decide +kernel
theorem dX7_cell_75 : decode cX7_cell 75 = .ok (.iconst 1, 1) := by decide +kernel
theorem dX7_cell_76 : decode cX7_cell 76 = .ok (.isub, 1) := by decide +kernel
theorem dX7_cell_77 : decode cX7_cell 77 = .ok (.invokestatic 59, 3) := by decide +kernel
theorem dX7_cell_80 : decode cX7_cell 80 = .ok (.ifCond .ne 9, 3) := by decide +kernel
theorem dX7_cell_83 : decode cX7_cell 83 = .ok (.aload_n 0, 1) := by decide +kernel
theorem dX7_cell_84 : decode cX7_cell 84 = .ok (.iconst 3, 1) := by decide +kernel
theorem dX7_cell_85 : decode cX7_cell 85 = .ok (.invokevirtual 203, 3) := by decide +kernel
theorem dX7_cell_88 : decode cX7_cell 88 = .ok (.lreturn, 1) := by decide +kernel
theorem dX7_cell_89 : decode cX7_cell 89 = .ok (.aload_n 0, 1) := by decide +kernel
theorem dX7_cell_90 : decode cX7_cell 90 = .ok (.getfield 16, 3) := by decide +kernel
theorem dX7_cell_93 : decode cX7_cell 93 = .ok (.bipush 80, 2) := by decide +kernel
theorem dX7_cell_95 : decode cX7_cell 95 = .ok (.iload_n 1, 1) := by decide +kernel
theorem dX7_cell_96 : decode cX7_cell 96 = .ok (.imul, 1) := by decide +kernel
theorem dX7_cell_97 : decode cX7_cell 97 = .ok (.iload_n 2, 1) := by decide +kernel
theorem dX7_cell_98 : decode cX7_cell 98 = .ok (.iadd, 1) := by decide +kernel
theorem dX7_cell_99 : decode cX7_cell 99 = .ok (.iaload, 1) := by decide +kernel
theorem dX7_cell_100 : decode cX7_cell 100 = .ok (.i2l, 1) := by decide +kernel
theorem dX7_cell_101 : decode cX7_cell 101 = .ok (.lreturn, 1) := by decide +kernel
theorem dX7_copy_0 : decode cX7_copy 0 = .ok (.aload_n 0, 1) := by decide +kernel
theorem dX7_copy_1 : decode cX7_copy 1 = .ok (.iconst 0, 1) := by decide +kernel
theorem dX7_copy_2 : decode cX7_copy 2 = .ok (.putfield 53, 3) := by decide +kernel
theorem dX7_copy_5 : decode cX7_copy 5 = .ok (.iload_n 1, 1) := by decide +kernel
theorem dX7_copy_6 : decode cX7_copy 6 = .ok (.invokestatic 76, 3) := by decide +kernel
theorem dX7_copy_9 : decode cX7_copy 9 = .ok (.ifCond .eq 10, 3) := by decide +kernel
theorem dX7_copy_12 : decode cX7_copy 12 = .ok (.iload_n 3, 1) := by decide +kernel
theorem dX7_copy_13 : decode cX7_copy 13 = .ok (.invokestatic 76, 3) := by decide +kernel
theorem dX7_copy_16 : decode cX7_copy 16 = .ok (.ifCond .ne 5, 3) := by decide +kernel
theorem dX7_copy_19 : decode cX7_copy 19 = .ok (.iconst (-1), 1) := by decide +kernel
theorem dX7_copy_20 : decode cX7_copy 20 = .ok (.ireturn, 1) := by decide +kernel
theorem dX7_copy_21 : decode cX7_copy 21 = .ok (.aload_n 0, 1) := by decide +kernel
theorem dX7_copy_22 : decode cX7_copy 22 = .ok (.getfield 9, 3) := by decide +kernel
theorem dX7_copy_25 : decode cX7_copy 25 = .ok (.iload_n 1, 1) := by decide +kernel
theorem dX7_copy_26 : decode cX7_copy 26 = .ok (.iaload, 1) := by decide +kernel
theorem dX7_copy_27 : decode cX7_copy 27 = .ok (.bipush (-9), 2) := by decide +kernel
theorem dX7_copy_29 : decode cX7_copy 29 = .ok (.if_icmp .eq 14, 3) := by decide +kernel
theorem dX7_copy_32 : decode cX7_copy 32 = .ok (.aload_n 0, 1) := by decide +kernel
theorem dX7_copy_33 : decode cX7_copy 33 = .ok (.getfield 9, 3) := by decide +kernel
theorem dX7_copy_36 : decode cX7_copy 36 = .ok (.iload_n 3, 1) := by decide +kernel
theorem dX7_copy_37 : decode cX7_copy 37 = .ok (.iaload, 1) := by decide +kernel
theorem dX7_copy_38 : decode cX7_copy 38 = .ok (.bipush (-9), 2) := by decide +kernel
theorem dX7_copy_40 : decode cX7_copy 40 = .ok (.if_icmp .ne 9, 3) := by decide +kernel
theorem dX7_copy_43 : decode cX7_copy 43 = .ok (.aload_n 0, 1) := by decide +kernel
theorem dX7_copy_44 : decode cX7_copy 44 = .ok (.iconst 1, 1) := by decide +kernel
theorem dX7_copy_45 : decode cX7_copy 45 = .ok (.invokevirtual 86, 3) := by decide +kernel
theorem dX7_copy_48 : decode cX7_copy 48 = .ok (.ireturn, 1) := by decide +kernel
theorem dX7_copy_49 : decode cX7_copy 49 = .ok (.aload_n 0, 1) := by decide +kernel
theorem dX7_copy_50 : decode cX7_copy 50 = .ok (.getfield 9, 3) := by decide +kernel
theorem dX7_copy_53 : decode cX7_copy 53 = .ok (.iload_n 1, 1) := by decide +kernel
theorem dX7_copy_54 : decode cX7_copy 54 = .ok (.iaload, 1) := by decide +kernel
theorem dX7_copy_55 : decode cX7_copy 55 = .ok (.aload_n 0, 1) := by decide +kernel
theorem dX7_copy_56 : decode cX7_copy 56 = .ok (.getfield 9, 3) := by decide +kernel
theorem dX7_copy_59 : decode cX7_copy 59 = .ok (.iload_n 3, 1) := by decide +kernel
theorem dX7_copy_60 : decode cX7_copy 60 = .ok (.iaload, 1) := by decide +kernel
theorem dX7_copy_61 : decode cX7_copy 61 = .ok (.if_icmp .eq 9, 3) := by decide +kernel
theorem dX7_copy_64 : decode cX7_copy 64 = .ok (.aload_n 0, 1) := by decide +kernel
theorem dX7_copy_65 : decode cX7_copy 65 = .ok (.iconst 2, 1) := by decide +kernel
theorem dX7_copy_66 : decode cX7_copy 66 = .ok (.invokevirtual 86, 3) := by decide +kernel
theorem dX7_copy_69 : decode cX7_copy 69 = .ok (.ireturn, 1) := by decide +kernel
theorem dX7_copy_70 : decode cX7_copy 70 = .ok (.iload_n 2, 1) := by decide +kernel
theorem dX7_copy_71 : decode cX7_copy 71 = .ok (.ifCond .lt 38, 3) := by decide +kernel
theorem dX7_copy_74 : decode cX7_copy 74 = .ok (.iload 4, 2) := by decide +kernel
theorem dX7_copy_76 : decode cX7_copy 76 = .ok (.ifCond .lt 33, 3) := by decide +kernel
theorem dX7_copy_79 : decode cX7_copy 79 = .ok (.iload 5, 2) := by decide +kernel
theorem dX7_copy_81 : decode cX7_copy 81 = .ok (.ifCond .lt 28, 3) := by decide +kernel
theorem dX7_copy_84 : decode cX7_copy 84 = .ok (.iload_n 2, 1) := by decide +kernel
theorem dX7_copy_85 : decode cX7_copy 85 = .ok (.aload_n 0, 1) := by decide +kernel
theorem dX7_copy_86 : decode cX7_copy 86 = .ok (.getfield 13, 3) := by decide +kernel
theorem dX7_copy_89 : decode cX7_copy 89 = .ok (.iload_n 1, 1) := by decide +kernel
theorem dX7_copy_90 : decode cX7_copy 90 = .ok (.iaload, 1) := by decide +kernel
theorem dX7_copy_91 : decode cX7_copy 91 = .ok (.if_icmp .gt 18, 3) := by decide +kernel
theorem dX7_copy_94 : decode cX7_copy 94 = .ok (.iload 4, 2) := by decide +kernel
theorem dX7_copy_96 : decode cX7_copy 96 = .ok (.aload_n 0, 1) := by decide +kernel
theorem dX7_copy_97 : decode cX7_copy 97 = .ok (.getfield 13, 3) := by decide +kernel
theorem dX7_copy_100 : decode cX7_copy 100 = .ok (.iload_n 3, 1) := by decide +kernel
theorem dX7_copy_101 : decode cX7_copy 101 = .ok (.iaload, 1) := by decide +kernel
theorem dX7_copy_102 : decode cX7_copy 102 = .ok (.if_icmp .gt 7, 3) := by decide +kernel
theorem dX7_copy_105 : decode cX7_copy 105 = .ok (.iconst 1, 1) := by decide +kernel
theorem dX7_copy_106 : decode cX7_copy 106 = .ok (.goto 4, 3) := by decide +kernel
theorem dX7_copy_109 : decode cX7_copy 109 = .ok (.iconst 0, 1) := by decide +kernel
theorem dX7_copy_110 : decode cX7_copy 110 = .ok (.istore 6, 2) := by decide +kernel
theorem dX7_copy_112 : decode cX7_copy 112 = .ok (.iload 6, 2) := by decide +kernel
theorem dX7_copy_114 : decode cX7_copy 114 = .ok (.ifCond .eq 30, 3) := by decide +kernel
theorem dX7_copy_117 : decode cX7_copy 117 = .ok (.iload 5, 2) := by decide +kernel
theorem dX7_copy_119 : decode cX7_copy 119 = .ok (.aload_n 0, 1) := by decide +kernel
theorem dX7_copy_120 : decode cX7_copy 120 = .ok (.getfield 13, 3) := by decide +kernel
theorem dX7_copy_123 : decode cX7_copy 123 = .ok (.iload_n 1, 1) := by decide +kernel
theorem dX7_copy_124 : decode cX7_copy 124 = .ok (.iaload, 1) := by decide +kernel
theorem dX7_copy_125 : decode cX7_copy 125 = .ok (.iload_n 2, 1) := by decide +kernel
theorem dX7_copy_126 : decode cX7_copy 126 = .ok (.isub, 1) := by decide +kernel
theorem dX7_copy_127 : decode cX7_copy 127 = .ok (.if_icmp .gt 17, 3) := by decide +kernel
theorem dX7_copy_130 : decode cX7_copy 130 = .ok (.iload 5, 2) := by decide +kernel
theorem dX7_copy_132 : decode cX7_copy 132 = .ok (.aload_n 0, 1) := by decide +kernel
theorem dX7_copy_133 : decode cX7_copy 133 = .ok (.getfield 13, 3) := by decide +kernel
theorem dX7_copy_136 : decode cX7_copy 136 = .ok (.iload_n 3, 1) := by decide +kernel
theorem dX7_copy_137 : decode cX7_copy 137 = .ok (.iaload, 1) := by decide +kernel
theorem dX7_copy_138 : decode cX7_copy 138 = .ok (.iload 4, 2) := by decide +kernel
theorem dX7_copy_140 : decode cX7_copy 140 = .ok (.isub, 1) := by decide +kernel
theorem dX7_copy_141 : decode cX7_copy 141 = .ok (.if_icmp .le 9, 3) := by decide +kernel
theorem dX7_copy_144 : decode cX7_copy 144 = .ok (.aload_n 0, 1) := by decide +kernel
theorem dX7_copy_145 : decode cX7_copy 145 = .ok (.iconst 3, 1) := by decide +kernel
theorem dX7_copy_146 : decode cX7_copy 146 = .ok (.invokevirtual 86, 3) := by decide +kernel
theorem dX7_copy_149 : decode cX7_copy 149 = .ok (.ireturn, 1) := by decide +kernel
theorem dX7_copy_150 : decode cX7_copy 150 = .ok (.iload_n 2, 1) := by decide +kernel
theorem dX7_copy_151 : decode cX7_copy 151 = .ok (.iload 4, 2) := by decide +kernel
theorem dX7_copy_153 : decode cX7_copy 153 = .ok (.if_icmp .ge 7, 3) := by decide +kernel
theorem dX7_copy_156 : decode cX7_copy 156 = .ok (.iconst 1, 1) := by decide +kernel
theorem dX7_copy_157 : decode cX7_copy 157 = .ok (.goto 4, 3) := by decide +kernel
theorem dX7_copy_160 : decode cX7_copy 160 = .ok (.iconst 0, 1) := by decide +kernel
theorem dX7_copy_161 : decode cX7_copy 161 = .ok (.istore 7, 2) := by decide +kernel
theorem dX7_copy_163 : decode cX7_copy 163 = .ok (.iconst 0, 1) := by decide +kernel
theorem dX7_copy_164 : decode cX7_copy 164 = .ok (.istore 8, 2) := by decide +kernel
theorem dX7_copy_166 : decode cX7_copy 166 = .ok (.iload 8, 2) := by decide +kernel
theorem dX7_copy_168 : decode cX7_copy 168 = .ok (.iload 5, 2) := by decide +kernel
theorem dX7_copy_170 : decode cX7_copy 170 = .ok (.if_icmp .ge 57, 3) := by decide +kernel
theorem dX7_copy_173 : decode cX7_copy 173 = .ok (.iload 7, 2) := by decide +kernel
theorem dX7_copy_175 : decode cX7_copy 175 = .ok (.ifCond .eq 13, 3) := by decide +kernel
theorem dX7_copy_178 : decode cX7_copy 178 = .ok (.iload 5, 2) := by decide +kernel
theorem dX7_copy_180 : decode cX7_copy 180 = .ok (.iconst 1, 1) := by decide +kernel
theorem dX7_copy_181 : decode cX7_copy 181 = .ok (.isub, 1) := by decide +kernel
theorem dX7_copy_182 : decode cX7_copy 182 = .ok (.iload 8, 2) := by decide +kernel
theorem dX7_copy_184 : decode cX7_copy 184 = .ok (.isub, 1) := by decide +kernel
theorem dX7_copy_185 : decode cX7_copy 185 = .ok (.goto 5, 3) := by decide +kernel
theorem dX7_copy_188 : decode cX7_copy 188 = .ok (.iload 8, 2) := by decide +kernel
theorem dX7_copy_190 : decode cX7_copy 190 = .ok (.istore 9, 2) := by decide +kernel
theorem dX7_copy_192 : decode cX7_copy 192 = .ok (.aload_n 0, 1) := by decide +kernel
theorem dX7_copy_193 : decode cX7_copy 193 = .ok (.getfield 16, 3) := by decide +kernel
theorem dX7_copy_196 : decode cX7_copy 196 = .ok (.bipush 80, 2) := by decide +kernel
theorem dX7_copy_198 : decode cX7_copy 198 = .ok (.iload_n 3, 1) := by decide +kernel
theorem dX7_copy_199 : decode cX7_copy 199 = .ok (.imul, 1) := by decide +kernel
theorem dX7_copy_200 : decode cX7_copy 200 = .ok (.iload 4, 2) := by decide +kernel
theorem dX7_copy_202 : decode cX7_copy 202 = .ok (.iadd, 1) := by decide +kernel
theorem dX7_copy_203 : decode cX7_copy 203 = .ok (.iload 9, 2) := by decide +kernel
theorem dX7_copy_205 : decode cX7_copy 205 = .ok (.iadd, 1) := by decide +kernel
theorem dX7_copy_206 : decode cX7_copy 206 = .ok (.aload_n 0, 1) := by decide +kernel
theorem dX7_copy_207 : decode cX7_copy 207 = .ok (.getfield 16, 3) := by decide +kernel
theorem dX7_copy_210 : decode cX7_copy 210 = .ok (.bipush 80, 2) := by decide +kernel
theorem dX7_copy_212 : decode cX7_copy 212 = .ok (.iload_n 1, 1) := by decide +kernel
theorem dX7_copy_213 : decode cX7_copy 213 = .ok (.imul, 1) := by decide +kernel
theorem dX7_copy_214 : decode cX7_copy 214 = .ok (.iload_n 2, 1) := by decide +kernel
theorem dX7_copy_215 : decode cX7_copy 215 = .ok (.iadd, 1) := by decide +kernel
theorem dX7_copy_216 : decode cX7_copy 216 = .ok (.iload 9, 2) := by decide +kernel
theorem dX7_copy_218 : decode cX7_copy 218 = .ok (.iadd, 1) := by decide +kernel
theorem dX7_copy_219 : decode cX7_copy 219 = .ok (.iaload, 1) := by decide +kernel
theorem dX7_copy_220 : decode cX7_copy 220 = .ok (.iastore, 1) := by decide +kernel
theorem dX7_copy_221 : decode cX7_copy 221 = .ok (.iinc 8 1, 3) := by decide +kernel
theorem dX7_copy_224 : decode cX7_copy 224 = .ok (.goto (-58), 3) := by decide +kernel
theorem dX7_copy_227 : decode cX7_copy 227 = .ok (.iload 5, 2) := by decide +kernel
theorem dX7_copy_229 : decode cX7_copy 229 = .ok (.ireturn, 1) := by decide +kernel
theorem dX7_tellsBy_0 : decode cX7_tellsBy 0 = .ok (.aload_n 0, 1) := by decide +kernel
theorem dX7_tellsBy_1 : decode cX7_tellsBy 1 = .ok (.bipush 31, 2) := by decide +kernel
theorem dX7_tellsBy_3 : decode cX7_tellsBy 3 = .ok (.aload_n 0, 1) := by decide +kernel
theorem dX7_tellsBy_4 : decode cX7_tellsBy 4 = .ok (.getfield 207, 3) := by decide +kernel
theorem dX7_tellsBy_7 : decode cX7_tellsBy 7 = .ok (.imul, 1) := by decide +kernel
theorem dX7_tellsBy_8 : decode cX7_tellsBy 8 = .ok (.iload_n 1, 1) := by decide +kernel
theorem dX7_tellsBy_9 : decode cX7_tellsBy 9 = .ok (.iadd, 1) := by decide +kernel
theorem dX7_tellsBy_10 : decode cX7_tellsBy 10 = .ok (.putfield 207, 3) := by decide +kernel
theorem dX7_tellsBy_13 : decode cX7_tellsBy 13 = .ok (.return_, 1) := by decide +kernel
theorem dX7_tell_0 : decode cX7_tell 0 = .ok (.aload_n 0, 1) := by decide +kernel
theorem dX7_tell_1 : decode cX7_tell 1 = .ok (.iload_n 1, 1) := by decide +kernel
theorem dX7_tell_2 : decode cX7_tell 2 = .ok (.invokevirtual 130, 3) := by decide +kernel
theorem dX7_tell_5 : decode cX7_tell 5 = .ok (.ifCond .ne 5, 3) := by decide +kernel
theorem dX7_tell_8 : decode cX7_tell 8 = .ok (.iconst (-1), 1) := by decide +kernel
theorem dX7_tell_9 : decode cX7_tell 9 = .ok (.ireturn, 1) := by decide +kernel
theorem dX7_tell_10 : decode cX7_tell 10 = .ok (.aload_n 0, 1) := by decide +kernel
theorem dX7_tell_11 : decode cX7_tell 11 = .ok (.getfield 40, 3) := by decide +kernel
theorem dX7_tell_14 : decode cX7_tell 14 = .ok (.iload_n 1, 1) := by decide +kernel
theorem dX7_tell_15 : decode cX7_tell 15 = .ok (.iaload, 1) := by decide +kernel
theorem dX7_tell_16 : decode cX7_tell 16 = .ok (.istore_n 2, 1) := by decide +kernel
theorem dX7_tell_17 : decode cX7_tell 17 = .ok (.aload_n 0, 1) := by decide +kernel
theorem dX7_tell_18 : decode cX7_tell 18 = .ok (.getfield 37, 3) := by decide +kernel
theorem dX7_tell_21 : decode cX7_tell 21 = .ok (.iload_n 1, 1) := by decide +kernel
theorem dX7_tell_22 : decode cX7_tell 22 = .ok (.iaload, 1) := by decide +kernel
theorem dX7_tell_23 : decode cX7_tell 23 = .ok (.lookupswitch 67 #[(1, 25), (2, 40)], 25) := by decide +kernel
theorem dX7_tell_48 : decode cX7_tell 48 = .ok (.aload_n 0, 1) := by decide +kernel
theorem dX7_tell_49 : decode cX7_tell 49 = .ok (.iconst 2, 1) := by decide +kernel
theorem dX7_tell_50 : decode cX7_tell 50 = .ok (.invokevirtual 210, 3) := by decide +kernel
theorem dX7_tell_53 : decode cX7_tell 53 = .ok (.aload_n 0, 1) := by decide +kernel
theorem dX7_tell_54 : decode cX7_tell 54 = .ok (.iconst 1, 1) := by decide +kernel
theorem dX7_tell_55 : decode cX7_tell 55 = .ok (.invokevirtual 210, 3) := by decide +kernel
theorem dX7_tell_58 : decode cX7_tell 58 = .ok (.iload_n 2, 1) := by decide +kernel
theorem dX7_tell_59 : decode cX7_tell 59 = .ok (.bipush 100, 2) := by decide +kernel
theorem dX7_tell_61 : decode cX7_tell 61 = .ok (.iadd, 1) := by decide +kernel
theorem dX7_tell_62 : decode cX7_tell 62 = .ok (.ireturn, 1) := by decide +kernel
theorem dX7_tell_63 : decode cX7_tell 63 = .ok (.aload_n 0, 1) := by decide +kernel
theorem dX7_tell_64 : decode cX7_tell 64 = .ok (.iconst 3, 1) := by decide +kernel
theorem dX7_tell_65 : decode cX7_tell 65 = .ok (.invokevirtual 210, 3) := by decide +kernel
theorem dX7_tell_68 : decode cX7_tell 68 = .ok (.aload_n 0, 1) := by decide +kernel
theorem dX7_tell_69 : decode cX7_tell 69 = .ok (.iconst 2, 1) := by decide +kernel
theorem dX7_tell_70 : decode cX7_tell 70 = .ok (.invokevirtual 210, 3) := by decide +kernel
theorem dX7_tell_73 : decode cX7_tell 73 = .ok (.aload_n 0, 1) := by decide +kernel
theorem dX7_tell_74 : decode cX7_tell 74 = .ok (.iconst 1, 1) := by decide +kernel
theorem dX7_tell_75 : decode cX7_tell 75 = .ok (.invokevirtual 210, 3) := by decide +kernel
theorem dX7_tell_78 : decode cX7_tell 78 = .ok (.aload_n 0, 1) := by decide +kernel
theorem dX7_tell_79 : decode cX7_tell 79 = .ok (.iconst 1, 1) := by decide +kernel
theorem dX7_tell_80 : decode cX7_tell 80 = .ok (.invokevirtual 210, 3) := by decide +kernel
theorem dX7_tell_83 : decode cX7_tell 83 = .ok (.iconst 2, 1) := by decide +kernel
theorem dX7_tell_84 : decode cX7_tell 84 = .ok (.iload_n 2, 1) := by decide +kernel
theorem dX7_tell_85 : decode cX7_tell 85 = .ok (.imul, 1) := by decide +kernel
theorem dX7_tell_86 : decode cX7_tell 86 = .ok (.bipush 100, 2) := by decide +kernel
theorem dX7_tell_88 : decode cX7_tell 88 = .ok (.iadd, 1) := by decide +kernel
theorem dX7_tell_89 : decode cX7_tell 89 = .ok (.ireturn, 1) := by decide +kernel
theorem dX7_tell_90 : decode cX7_tell 90 = .ok (.aload_n 0, 1) := by decide +kernel
theorem dX7_tell_91 : decode cX7_tell 91 = .ok (.iconst 1, 1) := by decide +kernel
theorem dX7_tell_92 : decode cX7_tell 92 = .ok (.invokevirtual 210, 3) := by decide +kernel
theorem dX7_tell_95 : decode cX7_tell 95 = .ok (.iload_n 2, 1) := by decide +kernel
theorem dX7_tell_96 : decode cX7_tell 96 = .ok (.ireturn, 1) := by decide +kernel
theorem dX7_lead_0 : decode cX7_lead 0 = .ok (.aload_n 0, 1) := by decide +kernel
theorem dX7_lead_1 : decode cX7_lead 1 = .ok (.iload_n 1, 1) := by decide +kernel
theorem dX7_lead_2 : decode cX7_lead 2 = .ok (.invokevirtual 130, 3) := by decide +kernel
theorem dX7_lead_5 : decode cX7_lead 5 = .ok (.ifCond .ne 5, 3) := by decide +kernel
theorem dX7_lead_8 : decode cX7_lead 8 = .ok (.iconst (-1), 1) := by decide +kernel
theorem dX7_lead_9 : decode cX7_lead 9 = .ok (.ireturn, 1) := by decide +kernel
theorem dX7_lead_10 : decode cX7_lead 10 = .ok (.aload_n 0, 1) := by decide +kernel
theorem dX7_lead_11 : decode cX7_lead 11 = .ok (.aload_n 0, 1) := by decide +kernel
theorem dX7_lead_12 : decode cX7_lead 12 = .ok (.getfield 37, 3) := by decide +kernel
theorem dX7_lead_15 : decode cX7_lead 15 = .ok (.iload_n 1, 1) := by decide +kernel
theorem dX7_lead_16 : decode cX7_lead 16 = .ok (.iaload, 1) := by decide +kernel
theorem dX7_lead_17 : decode cX7_lead 17 = .ok (.iconst 2, 1) := by decide +kernel
theorem dX7_lead_18 : decode cX7_lead 18 = .ok (.if_icmp .ne 7, 3) := by decide +kernel
theorem dX7_lead_21 : decode cX7_lead 21 = .ok (.iconst 5, 1) := by decide +kernel
theorem dX7_lead_22 : decode cX7_lead 22 = .ok (.goto 4, 3) := by decide +kernel
theorem dX7_lead_25 : decode cX7_lead 25 = .ok (.iconst 4, 1) := by decide +kernel
theorem dX7_lead_26 : decode cX7_lead 26 = .ok (.invokevirtual 210, 3) := by decide +kernel
theorem dX7_lead_29 : decode cX7_lead 29 = .ok (.aload_n 0, 1) := by decide +kernel
theorem dX7_lead_30 : decode cX7_lead 30 = .ok (.getfield 37, 3) := by decide +kernel
theorem dX7_lead_33 : decode cX7_lead 33 = .ok (.iload_n 1, 1) := by decide +kernel
theorem dX7_lead_34 : decode cX7_lead 34 = .ok (.iaload, 1) := by decide +kernel
theorem dX7_lead_35 : decode cX7_lead 35 = .ok (.iconst 2, 1) := by decide +kernel
theorem dX7_lead_36 : decode cX7_lead 36 = .ok (.if_icmp .ne 8, 3) := by decide +kernel
theorem dX7_lead_39 : decode cX7_lead 39 = .ok (.bipush 60, 2) := by decide +kernel
theorem dX7_lead_41 : decode cX7_lead 41 = .ok (.goto 4, 3) := by decide +kernel
theorem dX7_lead_44 : decode cX7_lead 44 = .ok (.iload_n 1, 1) := by decide +kernel
theorem dX7_lead_45 : decode cX7_lead 45 = .ok (.ireturn, 1) := by decide +kernel
theorem dX7_as_0 : decode cX7_as 0 = .ok (.aload_n 0, 1) := by decide +kernel
theorem dX7_as_1 : decode cX7_as 1 = .ok (.iconst 0, 1) := by decide +kernel
theorem dX7_as_2 : decode cX7_as 2 = .ok (.putfield 53, 3) := by decide +kernel
theorem dX7_as_5 : decode cX7_as 5 = .ok (.aload_n 0, 1) := by decide +kernel
theorem dX7_as_6 : decode cX7_as 6 = .ok (.iload_n 1, 1) := by decide +kernel
theorem dX7_as_7 : decode cX7_as 7 = .ok (.invokevirtual 130, 3) := by decide +kernel
theorem dX7_as_10 : decode cX7_as 10 = .ok (.ifCond .ne 5, 3) := by decide +kernel
theorem dX7_as_13 : decode cX7_as 13 = .ok (.iconst (-1), 1) := by decide +kernel
theorem dX7_as_14 : decode cX7_as 14 = .ok (.ireturn, 1) := by decide +kernel
theorem dX7_as_15 : decode cX7_as 15 = .ok (.iload_n 2, 1) := by decide +kernel
theorem dX7_as_16 : decode cX7_as 16 = .ok (.iconst 0, 1) := by decide +kernel
theorem dX7_as_17 : decode cX7_as 17 = .ok (.iconst 2, 1) := by decide +kernel
theorem dX7_as_18 : decode cX7_as 18 = .ok (.invokestatic 59, 3) := by decide +kernel
theorem dX7_as_21 : decode cX7_as 21 = .ok (.ifCond .ne 6, 3) := by decide +kernel
theorem dX7_as_24 : decode cX7_as 24 = .ok (.bipush (-2), 2) := by decide +kernel
theorem dX7_as_26 : decode cX7_as 26 = .ok (.ireturn, 1) := by decide +kernel
theorem dX7_as_27 : decode cX7_as 27 = .ok (.aload_n 0, 1) := by decide +kernel
theorem dX7_as_28 : decode cX7_as 28 = .ok (.getfield 37, 3) := by decide +kernel
theorem dX7_as_31 : decode cX7_as 31 = .ok (.iload_n 1, 1) := by decide +kernel
theorem dX7_as_32 : decode cX7_as 32 = .ok (.iaload, 1) := by decide +kernel
theorem dX7_as_33 : decode cX7_as 33 = .ok (.iload_n 2, 1) := by decide +kernel
theorem dX7_as_34 : decode cX7_as 34 = .ok (.if_icmp .lt 7, 3) := by decide +kernel
theorem dX7_as_37 : decode cX7_as 37 = .ok (.iconst 1, 1) := by decide +kernel
theorem dX7_as_38 : decode cX7_as 38 = .ok (.goto 8, 3) := by decide +kernel
theorem dX7_as_41 : decode cX7_as 41 = .ok (.aload_n 0, 1) := by decide +kernel
theorem dX7_as_42 : decode cX7_as 42 = .ok (.iconst 2, 1) := by decide +kernel
theorem dX7_as_43 : decode cX7_as 43 = .ok (.invokevirtual 86, 3) := by decide +kernel
theorem dX7_as_46 : decode cX7_as 46 = .ok (.ireturn, 1) := by decide +kernel
theorem dX7_trace_0 : decode cX7_trace 0 = .ok (.aload_n 0, 1) := by decide +kernel
theorem dX7_trace_1 : decode cX7_trace 1 = .ok (.getfield 207, 3) := by decide +kernel
theorem dX7_trace_4 : decode cX7_trace 4 = .ok (.ireturn, 1) := by decide +kernel
theorem dX7_fault_0 : decode cX7_fault 0 = .ok (.aload_n 0, 1) := by decide +kernel
theorem dX7_fault_1 : decode cX7_fault 1 = .ok (.getfield 53, 3) := by decide +kernel
theorem dX7_fault_4 : decode cX7_fault 4 = .ok (.ireturn, 1) := by decide +kernel
theorem dX7_many_0 : decode cX7_many 0 = .ok (.iload_n 1, 1) := by decide +kernel
theorem dX7_many_1 : decode cX7_many 1 = .ok (.ifCond .ne 10, 3) := by decide +kernel
theorem dX7_many_4 : decode cX7_many 4 = .ok (.aload_n 0, 1) := by decide +kernel
theorem dX7_many_5 : decode cX7_many 5 = .ok (.getfield 63, 3) := by decide +kernel
theorem dX7_many_8 : decode cX7_many 8 = .ok (.goto 41, 3) := by decide +kernel
theorem dX7_many_11 : decode cX7_many 11 = .ok (.iload_n 1, 1) := by decide +kernel
theorem dX7_many_12 : decode cX7_many 12 = .ok (.iconst 1, 1) := by decide +kernel
theorem dX7_many_13 : decode cX7_many 13 = .ok (.if_icmp .ne 10, 3) := by decide +kernel
theorem dX7_many_16 : decode cX7_many 16 = .ok (.aload_n 0, 1) := by decide +kernel
theorem dX7_many_17 : decode cX7_many 17 = .ok (.getfield 66, 3) := by decide +kernel
theorem dX7_many_20 : decode cX7_many 20 = .ok (.goto 29, 3) := by decide +kernel
theorem dX7_many_23 : decode cX7_many 23 = .ok (.iload_n 1, 1) := by decide +kernel
theorem dX7_many_24 : decode cX7_many 24 = .ok (.iconst 2, 1) := by decide +kernel
theorem dX7_many_25 : decode cX7_many 25 = .ok (.if_icmp .ne 10, 3) := by decide +kernel
theorem dX7_many_28 : decode cX7_many 28 = .ok (.aload_n 0, 1) := by decide +kernel
theorem dX7_many_29 : decode cX7_many 29 = .ok (.getfield 103, 3) := by decide +kernel
theorem dX7_many_32 : decode cX7_many 32 = .ok (.goto 17, 3) := by decide +kernel
theorem dX7_many_35 : decode cX7_many 35 = .ok (.iload_n 1, 1) := by decide +kernel
theorem dX7_many_36 : decode cX7_many 36 = .ok (.iconst 3, 1) := by decide +kernel
theorem dX7_many_37 : decode cX7_many 37 = .ok (.if_icmp .ne 10, 3) := by decide +kernel
theorem dX7_many_40 : decode cX7_many 40 = .ok (.aload_n 0, 1) := by decide +kernel
theorem dX7_many_41 : decode cX7_many 41 = .ok (.getfield 106, 3) := by decide +kernel
theorem dX7_many_44 : decode cX7_many 44 = .ok (.goto 5, 3) := by decide +kernel
theorem dX7_many_47 : decode cX7_many 47 = .ok (.bipush (-2), 2) := by decide +kernel
theorem dX7_many_49 : decode cX7_many 49 = .ok (.ireturn, 1) := by decide +kernel
