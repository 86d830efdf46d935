theorem dX0_init_0 : decode cX0_init 0 = .ok (.aload_n 0, 1) := by decide +kernel
theorem dX0_init_1 : decode cX0_init 1 = .ok (.invokespecial 3, 3) := by decide +kernel
theorem dX0_init_4 : decode cX0_init 4 = .ok (.aload_n 0, 1) := by decide +kernel
theorem dX0_init_5 : decode cX0_init 5 = .ok (.bipush 16, 2) := by decide +kernel
theorem dX0_init_7 : decode cX0_init 7 = .ok (.newarray .int, 2) := by decide +kernel
theorem dX0_init_9 : decode cX0_init 9 = .ok (.putfield 9, 3) := by decide +kernel
theorem dX0_init_12 : decode cX0_init 12 = .ok (.aload_n 0, 1) := by decide +kernel
theorem dX0_init_13 : decode cX0_init 13 = .ok (.bipush 16, 2) := by decide +kernel
theorem dX0_init_15 : decode cX0_init 15 = .ok (.newarray .int, 2) := by decide +kernel
theorem dX0_init_17 : decode cX0_init 17 = .ok (.putfield 15, 3) := by decide +kernel
theorem dX0_init_20 : decode cX0_init 20 = .ok (.aload_n 0, 1) := by decide +kernel
theorem dX0_init_21 : decode cX0_init 21 = .ok (.iconst (-1), 1) := by decide +kernel
theorem dX0_init_22 : decode cX0_init 22 = .ok (.putfield 18, 3) := by decide +kernel
theorem dX0_init_25 : decode cX0_init 25 = .ok (.return_, 1) := by decide +kernel
theorem dX0_faultPlace_0 : decode cX0_faultPlace 0 = .ok (.aload_n 0, 1) := by decide +kernel
theorem dX0_faultPlace_1 : decode cX0_faultPlace 1 = .ok (.getfield 18, 3) := by decide +kernel
theorem dX0_faultPlace_4 : decode cX0_faultPlace 4 = .ok (.ireturn, 1) := by decide +kernel
theorem dX0_has_0 : decode cX0_has 0 = .ok (.iload_n 1, 1) := by decide +kernel
theorem dX0_has_1 : decode cX0_has 1 = .ok (.ifCond .lt 15, 3) := by decide +kernel
theorem dX0_has_4 : decode cX0_has 4 = .ok (.iload_n 1, 1) := by decide +kernel
theorem dX0_has_5 : decode cX0_has 5 = .ok (.aload_n 0, 1) := by decide +kernel
theorem dX0_has_6 : decode cX0_has 6 = .ok (.getfield 22, 3) := by decide +kernel
theorem dX0_has_9 : decode cX0_has 9 = .ok (.if_icmp .ge 7, 3) := by decide +kernel
theorem dX0_has_12 : decode cX0_has 12 = .ok (.iconst 1, 1) := by decide +kernel
theorem dX0_has_13 : decode cX0_has 13 = .ok (.goto 4, 3) := by decide +kernel
theorem dX0_has_16 : decode cX0_has 16 = .ok (.iconst 0, 1) := by decide +kernel
theorem dX0_has_17 : decode cX0_has 17 = .ok (.ireturn, 1) := by decide +kernel
theorem dX0_kindAt_0 : decode cX0_kindAt 0 = .ok (.iload_n 1, 1) := by decide +kernel
theorem dX0_kindAt_1 : decode cX0_kindAt 1 = .ok (.ifCond .lt 29, 3) := by decide +kernel
theorem dX0_kindAt_4 : decode cX0_kindAt 4 = .ok (.iload_n 1, 1) := by decide +kernel
theorem dX0_kindAt_5 : decode cX0_kindAt 5 = .ok (.aload_n 0, 1) := by decide +kernel
theorem dX0_kindAt_6 : decode cX0_kindAt 6 = .ok (.getfield 22, 3) := by decide +kernel
theorem dX0_kindAt_9 : decode cX0_kindAt 9 = .ok (.if_icmp .ge 21, 3) := by decide +kernel
theorem dX0_kindAt_12 : decode cX0_kindAt 12 = .ok (.iload_n 1, 1) := by decide +kernel
theorem dX0_kindAt_13 : decode cX0_kindAt 13 = .ok (.aload_n 0, 1) := by decide +kernel
theorem dX0_kindAt_14 : decode cX0_kindAt 14 = .ok (.getfield 9, 3) := by decide +kernel
theorem dX0_kindAt_17 : decode cX0_kindAt 17 = .ok (.arraylength, 1) := by decide +kernel
theorem dX0_kindAt_18 : decode cX0_kindAt 18 = .ok (.if_icmp .ge 12, 3) := by decide +kernel
theorem dX0_kindAt_21 : decode cX0_kindAt 21 = .ok (.aload_n 0, 1) := by decide +kernel
theorem dX0_kindAt_22 : decode cX0_kindAt 22 = .ok (.getfield 9, 3) := by decide +kernel
theorem dX0_kindAt_25 : decode cX0_kindAt 25 = .ok (.iload_n 1, 1) := by decide +kernel
theorem dX0_kindAt_26 : decode cX0_kindAt 26 = .ok (.iaload, 1) := by decide +kernel
theorem dX0_kindAt_27 : decode cX0_kindAt 27 = .ok (.goto 4, 3) := by decide +kernel
theorem dX0_kindAt_30 : decode cX0_kindAt 30 = .ok (.iconst 0, 1) := by decide +kernel
theorem dX0_kindAt_31 : decode cX0_kindAt 31 = .ok (.ireturn, 1) := by decide +kernel
theorem dX0_loosenessAt_0 : decode cX0_loosenessAt 0 = .ok (.iload_n 1, 1) := by decide +kernel
theorem dX0_loosenessAt_1 : decode cX0_loosenessAt 1 = .ok (.ifCond .lt 29, 3) := by decide +kernel
theorem dX0_loosenessAt_4 : decode cX0_loosenessAt 4 = .ok (.iload_n 1, 1) := by decide +kernel
theorem dX0_loosenessAt_5 : decode cX0_loosenessAt 5 = .ok (.aload_n 0, 1) := by decide +kernel
theorem dX0_loosenessAt_6 : decode cX0_loosenessAt 6 = .ok (.getfield 22, 3) := by decide +kernel
theorem dX0_loosenessAt_9 : decode cX0_loosenessAt 9 = .ok (.if_icmp .ge 21, 3) := by decide +kernel
theorem dX0_loosenessAt_12 : decode cX0_loosenessAt 12 = .ok (.iload_n 1, 1) := by decide +kernel
theorem dX0_loosenessAt_13 : decode cX0_loosenessAt 13 = .ok (.aload_n 0, 1) := by decide +kernel
theorem dX0_loosenessAt_14 : decode cX0_loosenessAt 14 = .ok (.getfield 15, 3) := by decide +kernel
theorem dX0_loosenessAt_17 : decode cX0_loosenessAt 17 = .ok (.arraylength, 1) := by decide +kernel
theorem dX0_loosenessAt_18 : decode cX0_loosenessAt 18 = .ok (.if_icmp .ge 12, 3) := by decide +kernel
theorem dX0_loosenessAt_21 : decode cX0_loosenessAt 21 = .ok (.aload_n 0, 1) := by decide +kernel
theorem dX0_loosenessAt_22 : decode cX0_loosenessAt 22 = .ok (.getfield 15, 3) := by decide +kernel
theorem dX0_loosenessAt_25 : decode cX0_loosenessAt 25 = .ok (.iload_n 1, 1) := by decide +kernel
theorem dX0_loosenessAt_26 : decode cX0_loosenessAt 26 = .ok (.iaload, 1) := by decide +kernel
theorem dX0_loosenessAt_27 : decode cX0_loosenessAt 27 = .ok (.goto 4, 3) := by decide +kernel
theorem dX0_loosenessAt_30 : decode cX0_loosenessAt 30 = .ok (.iconst 0, 1) := by decide +kernel
theorem dX0_loosenessAt_31 : decode cX0_loosenessAt 31 = .ok (.ireturn, 1) := by decide +kernel
theorem dX0_isLoose_0 : decode cX0_isLoose 0 = .ok (.aload_n 0, 1) := by decide +kernel
theorem dX0_isLoose_1 : decode cX0_isLoose 1 = .ok (.iload_n 1, 1) := by decide +kernel
theorem dX0_isLoose_2 : decode cX0_isLoose 2 = .ok (.invokevirtual 25, 3) := by decide +kernel
theorem dX0_isLoose_5 : decode cX0_isLoose 5 = .ok (.ifCond .le 7, 3) := by decide +kernel
theorem dX0_isLoose_8 : decode cX0_isLoose 8 = .ok (.iconst 1, 1) := by decide +kernel
theorem dX0_isLoose_9 : decode cX0_isLoose 9 = .ok (.goto 4, 3) := by decide +kernel
theorem dX0_isLoose_12 : decode cX0_isLoose 12 = .ok (.iconst 0, 1) := by decide +kernel
theorem dX0_isLoose_13 : decode cX0_isLoose 13 = .ok (.ireturn, 1) := by decide +kernel
theorem dX0_loosenessInAll_0 : decode cX0_loosenessInAll 0 = .ok (.iconst 0, 1) := by decide +kernel
theorem dX0_loosenessInAll_1 : decode cX0_loosenessInAll 1 = .ok (.istore_n 1, 1) := by decide +kernel
theorem dX0_loosenessInAll_2 : decode cX0_loosenessInAll 2 = .ok (.iconst 0, 1) := by decide +kernel
theorem dX0_loosenessInAll_3 : decode cX0_loosenessInAll 3 = .ok (.istore_n 2, 1) := by decide +kernel
theorem dX0_loosenessInAll_4 : decode cX0_loosenessInAll 4 = .ok (.iload_n 2, 1) := by decide +kernel
theorem dX0_loosenessInAll_5 : decode cX0_loosenessInAll 5 = .ok (.aload_n 0, 1) := by decide +kernel
theorem dX0_loosenessInAll_6 : decode cX0_loosenessInAll 6 = .ok (.getfield 22, 3) := by decide +kernel
theorem dX0_loosenessInAll_9 : decode cX0_loosenessInAll 9 = .ok (.if_icmp .ge 17, 3) := by decide +kernel
theorem dX0_loosenessInAll_12 : decode cX0_loosenessInAll 12 = .ok (.iload_n 1, 1) := by decide +kernel
theorem dX0_loosenessInAll_13 : decode cX0_loosenessInAll 13 = .ok (.aload_n 0, 1) := by decide +kernel
theorem dX0_loosenessInAll_14 : decode cX0_loosenessInAll 14 = .ok (.iload_n 2, 1) := by decide +kernel
theorem dX0_loosenessInAll_15 : decode cX0_loosenessInAll 15 = .ok (.invokevirtual 25, 3) := by decide +kernel
theorem dX0_loosenessInAll_18 : decode cX0_loosenessInAll 18 = .ok (.iadd, 1) := by decide +kernel
theorem dX0_loosenessInAll_19 : decode cX0_loosenessInAll 19 = .ok (.istore_n 1, 1) := by decide +kernel
theorem dX0_loosenessInAll_20 : decode cX0_loosenessInAll 20 = .ok (.iinc 2 1, 3) := by decide +kernel
theorem dX0_loosenessInAll_23 : decode cX0_loosenessInAll 23 = .ok (.goto (-19), 3) := by decide +kernel
theorem dX0_loosenessInAll_26 : decode cX0_loosenessInAll 26 = .ok (.iload_n 1, 1) := by decide +kernel
theorem dX0_loosenessInAll_27 : decode cX0_loosenessInAll 27 = .ok (.ireturn, 1) := by decide +kernel
theorem dX0_parse_0 : decode cX0_parse 0 = .ok (.aload_n 0, 1) := by decide +kernel
theorem dX0_parse_1 : decode cX0_parse 1 = .ok (.iconst 0, 1) := by decide +kernel
theorem dX0_parse_2 : decode cX0_parse 2 = .ok (.putfield 22, 3) := by decide +kernel
theorem dX0_parse_5 : decode cX0_parse 5 = .ok (.aload_n 0, 1) := by decide +kernel
theorem dX0_parse_6 : decode cX0_parse 6 = .ok (.iconst (-1), 1) := by decide +kernel
theorem dX0_parse_7 : decode cX0_parse 7 = .ok (.putfield 18, 3) := by decide +kernel
theorem dX0_parse_10 : decode cX0_parse 10 = .ok (.iconst 0, 1) := by decide +kernel
theorem dX0_parse_11 : decode cX0_parse 11 = .ok (.istore_n 2, 1) := by decide +kernel
theorem dX0_parse_12 : decode cX0_parse 12 = .ok (.iconst 0, 1) := by decide +kernel
theorem dX0_parse_13 : decode cX0_parse 13 = .ok (.istore_n 3, 1) := by decide +kernel
theorem dX0_parse_14 : decode cX0_parse 14 = .ok (.iload_n 3, 1) := by decide +kernel
theorem dX0_parse_15 : decode cX0_parse 15 = .ok (.bipush 32, 2) := by decide +kernel
theorem dX0_parse_17 : decode cX0_parse 17 = .ok (.if_icmp .ge 113, 3) := by decide +kernel
theorem dX0_parse_20 : decode cX0_parse 20 = .ok (.iload_n 2, 1) := by decide +kernel
theorem dX0_parse_21 : decode cX0_parse 21 = .ok (.aload_n 1, 1) := by decide +kernel
theorem dX0_parse_22 : decode cX0_parse 22 = .ok (.invokevirtual 29, 3) := by decide +kernel
theorem dX0_parse_25 : decode cX0_parse 25 = .ok (.if_icmp .ge 105, 3) := by decide +kernel
theorem dX0_parse_28 : decode cX0_parse 28 = .ok (.aload_n 0, 1) := by decide +kernel
theorem dX0_parse_29 : decode cX0_parse 29 = .ok (.getfield 18, 3) := by decide +kernel
theorem dX0_parse_32 : decode cX0_parse 32 = .ok (.iconst (-1), 1) := by decide +kernel
theorem dX0_parse_33 : decode cX0_parse 33 = .ok (.if_icmp .ne 97, 3) := by decide +kernel
theorem dX0_parse_36 : decode cX0_parse 36 = .ok (.aload_n 1, 1) := by decide +kernel
theorem dX0_parse_37 : decode cX0_parse 37 = .ok (.iload_n 2, 1) := by decide +kernel
theorem dX0_parse_38 : decode cX0_parse 38 = .ok (.invokevirtual 35, 3) := by decide +kernel
theorem dX0_parse_41 : decode cX0_parse 41 = .ok (.invokestatic 38, 3) := by decide +kernel
theorem dX0_parse_44 : decode cX0_parse 44 = .ok (.istore 4, 2) := by decide +kernel
theorem dX0_parse_46 : decode cX0_parse 46 = .ok (.iload 4, 2) := by decide +kernel
theorem dX0_parse_48 : decode cX0_parse 48 = .ok (.iconst (-1), 1) := by decide +kernel
theorem dX0_parse_49 : decode cX0_parse 49 = .ok (.if_icmp .eq 12, 3) := by decide +kernel
theorem dX0_parse_52 : decode cX0_parse 52 = .ok (.aload_n 0, 1) := by decide +kernel
theorem dX0_parse_53 : decode cX0_parse 53 = .ok (.getfield 22, 3) := by decide +kernel
theorem dX0_parse_56 : decode cX0_parse 56 = .ok (.bipush 16, 2) := by decide +kernel
theorem dX0_parse_58 : decode cX0_parse 58 = .ok (.if_icmp .lt 11, 3) := by decide +kernel
theorem dX0_parse_61 : decode cX0_parse 61 = .ok (.aload_n 0, 1) := by decide +kernel
theorem dX0_parse_62 : decode cX0_parse 62 = .ok (.iload_n 2, 1) := by decide +kernel
theorem dX0_parse_63 : decode cX0_parse 63 = .ok (.putfield 18, 3) := by decide +kernel
theorem dX0_parse_66 : decode cX0_parse 66 = .ok (.goto 58, 3) := by decide +kernel
theorem dX0_parse_69 : decode cX0_parse 69 = .ok (.iload 4, 2) := by decide +kernel
theorem dX0_parse_71 : decode cX0_parse 71 = .ok (.iconst 3, 1) := by decide +kernel
theorem dX0_parse_72 : decode cX0_parse 72 = .ok (.if_icmp .eq 16, 3) := by decide +kernel
theorem dX0_parse_75 : decode cX0_parse 75 = .ok (.aload_n 0, 1) := by decide +kernel
theorem dX0_parse_76 : decode cX0_parse 76 = .ok (.iload 4, 2) := by decide +kernel
theorem dX0_parse_78 : decode cX0_parse 78 = .ok (.iconst 0, 1) := by decide +kernel
theorem dX0_parse_79 : decode cX0_parse 79 = .ok (.invokevirtual 41, 3) := by decide +kernel
theorem dX0_parse_82 : decode cX0_parse 82 = .ok (.iinc 2 1, 3) := by decide +kernel
theorem dX0_parse_85 : decode cX0_parse 85 = .ok (.goto 39, 3) := by decide +kernel
theorem dX0_parse_88 : decode cX0_parse 88 = .ok (.aload_n 1, 1) := by decide +kernel
theorem dX0_parse_89 : decode cX0_parse 89 = .ok (.iload_n 2, 1) := by decide +kernel
theorem dX0_parse_90 : decode cX0_parse 90 = .ok (.iconst 1, 1) := by decide +kernel
theorem dX0_parse_91 : decode cX0_parse 91 = .ok (.iadd, 1) := by decide +kernel
theorem dX0_parse_92 : decode cX0_parse 92 = .ok (.invokevirtual 45, 3) := by decide +kernel
theorem dX0_parse_95 : decode cX0_parse 95 = .ok (.iconst 1, 1) := by decide +kernel
theorem dX0_parse_96 : decode cX0_parse 96 = .ok (.if_icmp .ge 13, 3) := by decide +kernel
theorem dX0_parse_99 : decode cX0_parse 99 = .ok (.aload_n 0, 1) := by decide +kernel
theorem dX0_parse_100 : decode cX0_parse 100 = .ok (.iload_n 2, 1) := by decide +kernel
theorem dX0_parse_101 : decode cX0_parse 101 = .ok (.iconst 1, 1) := by decide +kernel
theorem dX0_parse_102 : decode cX0_parse 102 = .ok (.iadd, 1) := by decide +kernel
theorem dX0_parse_103 : decode cX0_parse 103 = .ok (.putfield 18, 3) := by decide +kernel
theorem dX0_parse_106 : decode cX0_parse 106 = .ok (.goto 18, 3) := by decide +kernel
theorem dX0_parse_109 : decode cX0_parse 109 = .ok (.aload_n 0, 1) := by decide +kernel
theorem dX0_parse_110 : decode cX0_parse 110 = .ok (.iconst 3, 1) := by decide +kernel
theorem dX0_parse_111 : decode cX0_parse 111 = .ok (.aload_n 1, 1) := by decide +kernel
theorem dX0_parse_112 : decode cX0_parse 112 = .ok (.iload_n 2, 1) := by decide +kernel
theorem dX0_parse_113 : decode cX0_parse 113 = .ok (.iconst 1, 1) := by decide +kernel
theorem dX0_parse_114 : decode cX0_parse 114 = .ok (.iadd, 1) := by decide +kernel
theorem dX0_parse_115 : decode cX0_parse 115 = .ok (.invokevirtual 45, 3) := by decide +kernel
theorem dX0_parse_118 : decode cX0_parse 118 = .ok (.invokevirtual 41, 3) := by decide +kernel
theorem dX0_parse_121 : decode cX0_parse 121 = .ok (.iinc 2 2, 3) := by decide +kernel
theorem dX0_parse_124 : decode cX0_parse 124 = .ok (.iinc 3 1, 3) := by decide +kernel
theorem dX0_parse_127 : decode cX0_parse 127 = .ok (.goto (-113), 3) := by decide +kernel
theorem dX0_parse_130 : decode cX0_parse 130 = .ok (.aload_n 0, 1) := by decide +kernel
theorem dX0_parse_131 : decode cX0_parse 131 = .ok (.getfield 18, 3) := by decide +kernel
theorem dX0_parse_134 : decode cX0_parse 134 = .ok (.iconst (-1), 1) := by decide +kernel
theorem dX0_parse_135 : decode cX0_parse 135 = .ok (.if_icmp .eq 8, 3) := by decide +kernel
theorem dX0_parse_138 : decode cX0_parse 138 = .ok (.aload_n 0, 1) := by decide +kernel
theorem dX0_parse_139 : decode cX0_parse 139 = .ok (.iconst 0, 1) := by decide +kernel
theorem dX0_parse_140 : decode cX0_parse 140 = .ok (.putfield 22, 3) := by decide +kernel
theorem dX0_parse_143 : decode cX0_parse 143 = .ok (.return_, 1) := by decide +kernel
theorem dX0_kindOf_0 : decode cX0_kindOf 0 = .ok (.iload_n 0, 1) := by decide +kernel
theorem dX0_kindOf_1 : decode cX0_kindOf 1 = .ok (.lookupswitch 51 #[(46, 43), (108, 49), (110, 47), (115, 45)], 43) := by decide +kernel
theorem dX0_kindOf_44 : decode cX0_kindOf 44 = .ok (.iconst 0, 1) := by decide +kernel
theorem dX0_kindOf_45 : decode cX0_kindOf 45 = .ok (.ireturn, 1) := by decide +kernel
theorem dX0_kindOf_46 : decode cX0_kindOf 46 = .ok (.iconst 1, 1) := by decide +kernel
theorem dX0_kindOf_47 : decode cX0_kindOf 47 = .ok (.ireturn, 1) := by decide +kernel
theorem dX0_kindOf_48 : decode cX0_kindOf 48 = .ok (.iconst 2, 1) := by decide +kernel
theorem dX0_kindOf_49 : decode cX0_kindOf 49 = .ok (.ireturn, 1) := by decide +kernel
theorem dX0_kindOf_50 : decode cX0_kindOf 50 = .ok (.iconst 3, 1) := by decide +kernel
theorem dX0_kindOf_51 : decode cX0_kindOf 51 = .ok (.ireturn, 1) := by decide +kernel
theorem dX0_kindOf_52 : decode cX0_kindOf 52 = .ok (.iconst (-1), 1) := by decide +kernel
theorem dX0_kindOf_53 : decode cX0_kindOf 53 = .ok (.ireturn, 1) := by decide +kernel
theorem dX0_add_0 : decode cX0_add 0 = .ok (.aload_n 0, 1) := by decide +kernel
theorem dX0_add_1 : decode cX0_add 1 = .ok (.getfield 22, 3) := by decide +kernel
theorem dX0_add_4 : decode cX0_add 4 = .ok (.ifCond .lt 57, 3) := by decide +kernel
theorem dX0_add_7 : decode cX0_add 7 = .ok (.aload_n 0, 1) := by decide +kernel
theorem dX0_add_8 : decode cX0_add 8 = .ok (.getfield 22, 3) := by decide +kernel
theorem dX0_add_11 : decode cX0_add 11 = .ok (.aload_n 0, 1) := by decide +kernel
theorem dX0_add_12 : decode cX0_add 12 = .ok (.getfield 9, 3) := by decide +kernel
theorem dX0_add_15 : decode cX0_add 15 = .ok (.arraylength, 1) := by decide +kernel
theorem dX0_add_16 : decode cX0_add 16 = .ok (.if_icmp .ge 45, 3) := by decide +kernel
theorem dX0_add_19 : decode cX0_add 19 = .ok (.aload_n 0, 1) := by decide +kernel
theorem dX0_add_20 : decode cX0_add 20 = .ok (.getfield 22, 3) := by decide +kernel
theorem dX0_add_23 : decode cX0_add 23 = .ok (.aload_n 0, 1) := by decide +kernel
theorem dX0_add_24 : decode cX0_add 24 = .ok (.getfield 15, 3) := by decide +kernel
theorem dX0_add_27 : decode cX0_add 27 = .ok (.arraylength, 1) := by decide +kernel
theorem dX0_add_28 : decode cX0_add 28 = .ok (.if_icmp .ge 33, 3) := by decide +kernel
theorem dX0_add_31 : decode cX0_add 31 = .ok (.aload_n 0, 1) := by decide +kernel
theorem dX0_add_32 : decode cX0_add 32 = .ok (.getfield 9, 3) := by decide +kernel
theorem dX0_add_35 : decode cX0_add 35 = .ok (.aload_n 0, 1) := by decide +kernel
theorem dX0_add_36 : decode cX0_add 36 = .ok (.getfield 22, 3) := by decide +kernel
theorem dX0_add_39 : decode cX0_add 39 = .ok (.iload_n 1, 1) := by decide +kernel
theorem dX0_add_40 : decode cX0_add 40 = .ok (.iastore, 1) := by decide +kernel
theorem dX0_add_41 : decode cX0_add 41 = .ok (.aload_n 0, 1) := by decide +kernel
theorem dX0_add_42 : decode cX0_add 42 = .ok (.getfield 15, 3) := by decide +kernel
theorem dX0_add_45 : decode cX0_add 45 = .ok (.aload_n 0, 1) := by decide +kernel
theorem dX0_add_46 : decode cX0_add 46 = .ok (.getfield 22, 3) := by decide +kernel
theorem dX0_add_49 : decode cX0_add 49 = .ok (.iload_n 2, 1) := by decide +kernel
theorem dX0_add_50 : decode cX0_add 50 = .ok (.iastore, 1) := by decide +kernel
theorem dX0_add_51 : decode cX0_add 51 = .ok (.aload_n 0, 1) := by decide +kernel
theorem dX0_add_52 : decode cX0_add 52 = .ok (.dup, 1) := by decide +kernel
theorem dX0_add_53 : decode cX0_add 53 = .ok (.getfield 22, 3) := by decide +kernel
theorem dX0_add_56 : decode cX0_add 56 = .ok (.iconst 1, 1) := by decide +kernel
theorem dX0_add_57 : decode cX0_add 57 = .ok (.iadd, 1) := by decide +kernel
theorem dX0_add_58 : decode cX0_add 58 = .ok (.putfield 22, 3) := by decide +kernel
theorem dX0_add_61 : decode cX0_add 61 = .ok (.return_, 1) := by decide +kernel
theorem dX1_init_0 : decode cX1_init 0 = .ok (.aload_n 0, 1) := by decide +kernel
theorem dX1_init_1 : decode cX1_init 1 = .ok (.invokespecial 3, 3) := by decide +kernel
theorem dX1_init_4 : decode cX1_init 4 = .ok (.aload_n 0, 1) := by decide +kernel
theorem dX1_init_5 : decode cX1_init 5 = .ok (.bipush 12, 2) := by decide +kernel
theorem dX1_init_7 : decode cX1_init 7 = .ok (.newarray .long, 2) := by decide +kernel
theorem dX1_init_9 : decode cX1_init 9 = .ok (.putfield 9, 3) := by decide +kernel
theorem dX1_init_12 : decode cX1_init 12 = .ok (.aload_n 0, 1) := by decide +kernel
theorem dX1_init_13 : decode cX1_init 13 = .ok (.aload_n 1, 1) := by decide +kernel
theorem dX1_init_14 : decode cX1_init 14 = .ok (.putfield 15, 3) := by decide +kernel
theorem dX1_init_17 : decode cX1_init 17 = .ok (.aload_n 0, 1) := by decide +kernel
theorem dX1_init_18 : decode cX1_init 18 = .ok (.aload_n 2, 1) := by decide +kernel
theorem dX1_init_19 : decode cX1_init 19 = .ok (.putfield 19, 3) := by decide +kernel
theorem dX1_init_22 : decode cX1_init 22 = .ok (.aload_n 0, 1) := by decide +kernel
theorem dX1_init_23 : decode cX1_init 23 = .ok (.aload_n 3, 1) := by decide +kernel
theorem dX1_init_24 : decode cX1_init 24 = .ok (.putfield 23, 3) := by decide +kernel
theorem dX1_init_27 : decode cX1_init 27 = .ok (.return_, 1) := by decide +kernel
theorem dX1_search_0 : decode cX1_search 0 = .ok (.iconst 0, 1) := by decide +kernel
theorem dX1_search_1 : decode cX1_search 1 = .ok (.istore_n 2, 1) := by decide +kernel
theorem dX1_search_2 : decode cX1_search 2 = .ok (.iload_n 2, 1) := by decide +kernel
theorem dX1_search_3 : decode cX1_search 3 = .ok (.aload_n 0, 1) := by decide +kernel
theorem dX1_search_4 : decode cX1_search 4 = .ok (.getfield 9, 3) := by decide +kernel
theorem dX1_search_7 : decode cX1_search 7 = .ok (.arraylength, 1) := by decide +kernel
theorem dX1_search_8 : decode cX1_search 8 = .ok (.if_icmp .ge 52, 3) := by decide +kernel
theorem dX1_search_11 : decode cX1_search 11 = .ok (.aload_n 0, 1) := by decide +kernel
theorem dX1_search_12 : decode cX1_search 12 = .ok (.getfield 9, 3) := by decide +kernel
theorem dX1_search_15 : decode cX1_search 15 = .ok (.iload_n 2, 1) := by decide +kernel
theorem dX1_search_16 : decode cX1_search 16 = .ok (.aload_n 0, 1) := by decide +kernel
theorem dX1_search_17 : decode cX1_search 17 = .ok (.getfield 15, 3) := by decide +kernel
theorem dX1_search_20 : decode cX1_search 20 = .ok (.iload_n 2, 1) := by decide +kernel
theorem dX1_search_21 : decode cX1_search 21 = .ok (.iconst 2, 1) := by decide +kernel
theorem dX1_search_22 : decode cX1_search 22 = .ok (.idiv, 1) := by decide +kernel
theorem dX1_search_23 : decode cX1_search 23 = .ok (.invokevirtual 27, 3) := by decide +kernel
theorem dX1_search_26 : decode cX1_search 26 = .ok (.ifCond .eq 26, 3) := by decide +kernel
theorem dX1_search_29 : decode cX1_search 29 = .ok (.aload_n 0, 1) := by decide +kernel
theorem dX1_search_30 : decode cX1_search 30 = .ok (.getfield 23, 3) := by decide +kernel
theorem dX1_search_33 : decode cX1_search 33 = .ok (.iload_n 2, 1) := by decide +kernel
theorem dX1_search_34 : decode cX1_search 34 = .ok (.iconst 2, 1) := by decide +kernel
theorem dX1_search_35 : decode cX1_search 35 = .ok (.idiv, 1) := by decide +kernel
theorem dX1_search_36 : decode cX1_search 36 = .ok (.iload_n 2, 1) := by decide +kernel
theorem dX1_search_37 : decode cX1_search 37 = .ok (.iconst 2, 1) := by decide +kernel
theorem dX1_search_38 : decode cX1_search 38 = .ok (.irem, 1) := by decide +kernel
theorem dX1_search_39 : decode cX1_search 39 = .ok (.aload_n 0, 1) := by decide +kernel
theorem dX1_search_40 : decode cX1_search 40 = .ok (.getfield 19, 3) := by decide +kernel
theorem dX1_search_43 : decode cX1_search 43 = .ok (.getfield 33, 3) := by decide +kernel
theorem dX1_search_46 : decode cX1_search 46 = .ok (.invokevirtual 39, 3) := by decide +kernel
theorem dX1_search_49 : decode cX1_search 49 = .ok (.goto 4, 3) := by decide +kernel
theorem dX1_search_52 : decode cX1_search 52 = .ok (.lconst 0, 1) := by decide +kernel
theorem dX1_search_53 : decode cX1_search 53 = .ok (.lastore, 1) := by decide +kernel
theorem dX1_search_54 : decode cX1_search 54 = .ok (.iinc 2 1, 3) := by decide +kernel
theorem dX1_search_57 : decode cX1_search 57 = .ok (.goto (-55), 3) := by decide +kernel
theorem dX1_search_60 : decode cX1_search 60 = .ok (.iconst 0, 1) := by decide +kernel
theorem dX1_search_61 : decode cX1_search 61 = .ok (.istore_n 2, 1) := by decide +kernel
theorem dX1_search_62 : decode cX1_search 62 = .ok (.ldc2_w 45, 3) := by decide +kernel
theorem dX1_search_65 : decode cX1_search 65 = .ok (.lstore_n 3, 1) := by decide +kernel
theorem dX1_search_66 : decode cX1_search 66 = .ok (.iconst 0, 1) := by decide +kernel
theorem dX1_search_67 : decode cX1_search 67 = .ok (.istore 5, 2) := by decide +kernel
theorem dX1_search_69 : decode cX1_search 69 = .ok (.iload 5, 2) := by decide +kernel
theorem dX1_search_71 : decode cX1_search 71 = .ok (.iconst 1, 1) := by decide +kernel
theorem dX1_search_72 : decode cX1_search 72 = .ok (.aload_n 0, 1) := by decide +kernel
theorem dX1_search_73 : decode cX1_search 73 = .ok (.getfield 15, 3) := by decide +kernel
theorem dX1_search_76 : decode cX1_search 76 = .ok (.invokevirtual 47, 3) := by decide +kernel
theorem dX1_search_79 : decode cX1_search 79 = .ok (.ishl, 1) := by decide +kernel
theorem dX1_search_80 : decode cX1_search 80 = .ok (.if_icmp .ge 39, 3) := by decide +kernel
theorem dX1_search_83 : decode cX1_search 83 = .ok (.iload 5, 2) := by decide +kernel
theorem dX1_search_85 : decode cX1_search 85 = .ok (.invokestatic 51, 3) := by decide +kernel
theorem dX1_search_88 : decode cX1_search 88 = .ok (.iload_n 1, 1) := by decide +kernel
theorem dX1_search_89 : decode cX1_search 89 = .ok (.if_icmp .ne 24, 3) := by decide +kernel
theorem dX1_search_92 : decode cX1_search 92 = .ok (.aload_n 0, 1) := by decide +kernel
theorem dX1_search_93 : decode cX1_search 93 = .ok (.iload 5, 2) := by decide +kernel
theorem dX1_search_95 : decode cX1_search 95 = .ok (.invokevirtual 57, 3) := by decide +kernel
theorem dX1_search_98 : decode cX1_search 98 = .ok (.lload_n 3, 1) := by decide +kernel
theorem dX1_search_99 : decode cX1_search 99 = .ok (.lcmp, 1) := by decide +kernel
theorem dX1_search_100 : decode cX1_search 100 = .ok (.ifCond .ge 13, 3) := by decide +kernel
theorem dX1_search_103 : decode cX1_search 103 = .ok (.aload_n 0, 1) := by decide +kernel
theorem dX1_search_104 : decode cX1_search 104 = .ok (.iload 5, 2) := by decide +kernel
theorem dX1_search_106 : decode cX1_search 106 = .ok (.invokevirtual 57, 3) := by decide +kernel
theorem dX1_search_109 : decode cX1_search 109 = .ok (.lstore_n 3, 1) := by decide +kernel
theorem dX1_search_110 : decode cX1_search 110 = .ok (.iload 5, 2) := by decide +kernel
theorem dX1_search_112 : decode cX1_search 112 = .ok (.istore_n 2, 1) := by decide +kernel
theorem dX1_search_113 : decode cX1_search 113 = .ok (.iinc 5 1, 3) := by decide +kernel
theorem dX1_search_116 : decode cX1_search 116 = .ok (.goto (-47), 3) := by decide +kernel
theorem dX1_search_119 : decode cX1_search 119 = .ok (.iload_n 2, 1) := by decide +kernel
theorem dX1_search_120 : decode cX1_search 120 = .ok (.ireturn, 1) := by decide +kernel
theorem dX1_harmWith_0 : decode cX1_harmWith 0 = .ok (.lconst 0, 1) := by decide +kernel
theorem dX1_harmWith_1 : decode cX1_harmWith 1 = .ok (.lstore_n 2, 1) := by decide +kernel
theorem dX1_harmWith_2 : decode cX1_harmWith 2 = .ok (.iconst 0, 1) := by decide +kernel
theorem dX1_harmWith_3 : decode cX1_harmWith 3 = .ok (.istore 4, 2) := by decide +kernel
theorem dX1_harmWith_5 : decode cX1_harmWith 5 = .ok (.iload 4, 2) := by decide +kernel
theorem dX1_harmWith_7 : decode cX1_harmWith 7 = .ok (.aload_n 0, 1) := by decide +kernel
theorem dX1_harmWith_8 : decode cX1_harmWith 8 = .ok (.getfield 15, 3) := by decide +kernel
theorem dX1_harmWith_11 : decode cX1_harmWith 11 = .ok (.invokevirtual 47, 3) := by decide +kernel
theorem dX1_harmWith_14 : decode cX1_harmWith 14 = .ok (.if_icmp .ge 47, 3) := by decide +kernel
theorem dX1_harmWith_17 : decode cX1_harmWith 17 = .ok (.iconst 2, 1) := by decide +kernel
theorem dX1_harmWith_18 : decode cX1_harmWith 18 = .ok (.iload 4, 2) := by decide +kernel
theorem dX1_harmWith_20 : decode cX1_harmWith 20 = .ok (.imul, 1) := by decide +kernel
theorem dX1_harmWith_21 : decode cX1_harmWith 21 = .ok (.iload_n 1, 1) := by decide +kernel
theorem dX1_harmWith_22 : decode cX1_harmWith 22 = .ok (.iload 4, 2) := by decide +kernel
theorem dX1_harmWith_24 : decode cX1_harmWith 24 = .ok (.ishr, 1) := by decide +kernel
theorem dX1_harmWith_25 : decode cX1_harmWith 25 = .ok (.iconst 1, 1) := by decide +kernel
theorem dX1_harmWith_26 : decode cX1_harmWith 26 = .ok (.iand, 1) := by decide +kernel
theorem dX1_harmWith_27 : decode cX1_harmWith 27 = .ok (.iadd, 1) := by decide +kernel
theorem dX1_harmWith_28 : decode cX1_harmWith 28 = .ok (.istore 5, 2) := by decide +kernel
theorem dX1_harmWith_30 : decode cX1_harmWith 30 = .ok (.iload 5, 2) := by decide +kernel
theorem dX1_harmWith_32 : decode cX1_harmWith 32 = .ok (.ifCond .lt 23, 3) := by decide +kernel
theorem dX1_harmWith_35 : decode cX1_harmWith 35 = .ok (.iload 5, 2) := by decide +kernel
theorem dX1_harmWith_37 : decode cX1_harmWith 37 = .ok (.aload_n 0, 1) := by decide +kernel
theorem dX1_harmWith_38 : decode cX1_harmWith 38 = .ok (.getfield 9, 3) := by decide +kernel
theorem dX1_harmWith_41 : decode cX1_harmWith 41 = .ok (.arraylength, 1) := by decide +kernel
theorem dX1_harmWith_42 : decode cX1_harmWith 42 = .ok (.if_icmp .ge 13, 3) := by decide +kernel
theorem dX1_harmWith_45 : decode cX1_harmWith 45 = .ok (.lload_n 2, 1) := by decide +kernel
theorem dX1_harmWith_46 : decode cX1_harmWith 46 = .ok (.aload_n 0, 1) := by decide +kernel
theorem dX1_harmWith_47 : decode cX1_harmWith 47 = .ok (.getfield 9, 3) := by decide +kernel
theorem dX1_harmWith_50 : decode cX1_harmWith 50 = .ok (.iload 5, 2) := by decide +kernel
theorem dX1_harmWith_52 : decode cX1_harmWith 52 = .ok (.laload, 1) := by decide +kernel
theorem dX1_harmWith_53 : decode cX1_harmWith 53 = .ok (.ladd, 1) := by decide +kernel
theorem dX1_harmWith_54 : decode cX1_harmWith 54 = .ok (.lstore_n 2, 1) := by decide +kernel
theorem dX1_harmWith_55 : decode cX1_harmWith 55 = .ok (.iinc 4 1, 3) := by decide +kernel
theorem dX1_harmWith_58 : decode cX1_harmWith 58 = .ok (.goto (-53), 3) := by decide +kernel
theorem dX1_harmWith_61 : decode cX1_harmWith 61 = .ok (.lload_n 2, 1) := by decide +kernel
theorem dX1_harmWith_62 : decode cX1_harmWith 62 = .ok (.lreturn, 1) := by decide +kernel
theorem dX2_init_0 : decode cX2_init 0 = .ok (.aload_n 0, 1) := by decide +kernel
theorem dX2_init_1 : decode cX2_init 1 = .ok (.invokespecial 3, 3) := by decide +kernel
theorem dX2_init_4 : decode cX2_init 4 = .ok (.aload_n 0, 1) := by decide +kernel
theorem dX2_init_5 : decode cX2_init 5 = .ok (.aload_n 1, 1) := by decide +kernel
theorem dX2_init_6 : decode cX2_init 6 = .ok (.putfield 9, 3) := by decide +kernel
theorem dX2_init_9 : decode cX2_init 9 = .ok (.aload_n 0, 1) := by decide +kernel
theorem dX2_init_10 : decode cX2_init 10 = .ok (.aload_n 2, 1) := by decide +kernel
theorem dX2_init_11 : decode cX2_init 11 = .ok (.putfield 15, 3) := by decide +kernel
theorem dX2_init_14 : decode cX2_init 14 = .ok (.aload_n 0, 1) := by decide +kernel
theorem dX2_init_15 : decode cX2_init 15 = .ok (.aload_n 3, 1) := by decide +kernel
theorem dX2_init_16 : decode cX2_init 16 = .ok (.putfield 19, 3) := by decide +kernel
theorem dX2_init_19 : decode cX2_init 19 = .ok (.aload_n 0, 1) := by decide +kernel
theorem dX2_init_20 : decode cX2_init 20 = .ok (.aload 4, 2) := by decide +kernel
theorem dX2_init_22 : decode cX2_init 22 = .ok (.putfield 23, 3) := by decide +kernel
theorem dX2_init_25 : decode cX2_init 25 = .ok (.return_, 1) := by decide +kernel
theorem dX2_play_0 : decode cX2_play 0 = .ok (.aload_n 0, 1) := by decide +kernel
theorem dX2_play_1 : decode cX2_play 1 = .ok (.iload_n 1, 1) := by decide +kernel
theorem dX2_play_2 : decode cX2_play 2 = .ok (.putfield 27, 3) := by decide +kernel
theorem dX2_play_5 : decode cX2_play 5 = .ok (.aload_n 0, 1) := by decide +kernel
theorem dX2_play_6 : decode cX2_play 6 = .ok (.iconst 0, 1) := by decide +kernel
theorem dX2_play_7 : decode cX2_play 7 = .ok (.putfield 31, 3) := by decide +kernel
theorem dX2_play_10 : decode cX2_play 10 = .ok (.aload_n 0, 1) := by decide +kernel
theorem dX2_play_11 : decode cX2_play 11 = .ok (.getfield 19, 3) := by decide +kernel
theorem dX2_play_14 : decode cX2_play 14 = .ok (.getfield 34, 3) := by decide +kernel
theorem dX2_play_17 : decode cX2_play 17 = .ok (.aload_n 0, 1) := by decide +kernel
theorem dX2_play_18 : decode cX2_play 18 = .ok (.getfield 23, 3) := by decide +kernel
theorem dX2_play_21 : decode cX2_play 21 = .ok (.invokevirtual 39, 3) := by decide +kernel
theorem dX2_play_24 : decode cX2_play 24 = .ok (.iadd, 1) := by decide +kernel
theorem dX2_play_25 : decode cX2_play 25 = .ok (.istore_n 2, 1) := by decide +kernel
theorem dX2_play_26 : decode cX2_play 26 = .ok (.aload_n 0, 1) := by decide +kernel
theorem dX2_play_27 : decode cX2_play 27 = .ok (.getfield 19, 3) := by decide +kernel
theorem dX2_play_30 : decode cX2_play 30 = .ok (.getfield 34, 3) := by decide +kernel
theorem dX2_play_33 : decode cX2_play 33 = .ok (.istore_n 3, 1) := by decide +kernel
theorem dX2_play_34 : decode cX2_play 34 = .ok (.iload_n 3, 1) := by decide +kernel
theorem dX2_play_35 : decode cX2_play 35 = .ok (.iload_n 2, 1) := by decide +kernel
theorem dX2_play_36 : decode cX2_play 36 = .ok (.if_icmp .ge 19, 3) := by decide +kernel
theorem dX2_play_39 : decode cX2_play 39 = .ok (.aload_n 0, 1) := by decide +kernel
theorem dX2_play_40 : decode cX2_play 40 = .ok (.iload_n 3, 1) := by decide +kernel
theorem dX2_play_41 : decode cX2_play 41 = .ok (.invokevirtual 45, 3) := by decide +kernel
theorem dX2_play_44 : decode cX2_play 44 = .ok (.aload_n 0, 1) := by decide +kernel
theorem dX2_play_45 : decode cX2_play 45 = .ok (.iload_n 3, 1) := by decide +kernel
theorem dX2_play_46 : decode cX2_play 46 = .ok (.invokevirtual 49, 3) := by decide +kernel
theorem dX2_play_49 : decode cX2_play 49 = .ok (.iinc 3 1, 3) := by decide +kernel
theorem dX2_play_52 : decode cX2_play 52 = .ok (.goto (-18), 3) := by decide +kernel
theorem dX2_play_55 : decode cX2_play 55 = .ok (.aload_n 0, 1) := by decide +kernel
theorem dX2_play_56 : decode cX2_play 56 = .ok (.getfield 31, 3) := by decide +kernel
theorem dX2_play_59 : decode cX2_play 59 = .ok (.ireturn, 1) := by decide +kernel
theorem dX2_lotOfSixteen_0 : decode cX2_lotOfSixteen 0 = .ok (.aload_n 0, 1) := by decide +kernel
theorem dX2_lotOfSixteen_1 : decode cX2_lotOfSixteen 1 = .ok (.ldc 52, 2) := by decide +kernel
theorem dX2_lotOfSixteen_3 : decode cX2_lotOfSixteen 3 = .ok (.aload_n 0, 1) := by decide +kernel
theorem dX2_lotOfSixteen_4 : decode cX2_lotOfSixteen 4 = .ok (.getfield 27, 3) := by decide +kernel
theorem dX2_lotOfSixteen_7 : decode cX2_lotOfSixteen 7 = .ok (.imul, 1) := by decide +kernel
theorem dX2_lotOfSixteen_8 : decode cX2_lotOfSixteen 8 = .ok (.sipush 12345, 3) := by decide +kernel
theorem dX2_lotOfSixteen_11 : decode cX2_lotOfSixteen 11 = .ok (.iadd, 1) := by decide +kernel
theorem dX2_lotOfSixteen_12 : decode cX2_lotOfSixteen 12 = .ok (.putfield 27, 3) := by decide +kernel
theorem dX2_lotOfSixteen_15 : decode cX2_lotOfSixteen 15 = .ok (.aload_n 0, 1) := by decide +kernel
theorem dX2_lotOfSixteen_16 : decode cX2_lotOfSixteen 16 = .ok (.getfield 27, 3) := by decide +kernel
theorem dX2_lotOfSixteen_19 : decode cX2_lotOfSixteen 19 = .ok (.bipush 16, 2) := by decide +kernel
theorem dX2_lotOfSixteen_21 : decode cX2_lotOfSixteen 21 = .ok (.iushr, 1) := by decide +kernel
theorem dX2_lotOfSixteen_22 : decode cX2_lotOfSixteen 22 = .ok (.bipush 16, 2) := by decide +kernel
theorem dX2_lotOfSixteen_24 : decode cX2_lotOfSixteen 24 = .ok (.irem, 1) := by decide +kernel
theorem dX2_lotOfSixteen_25 : decode cX2_lotOfSixteen 25 = .ok (.ireturn, 1) := by decide +kernel
theorem dX2_playFeet_0 : decode cX2_playFeet 0 = .ok (.iconst 0, 1) := by decide +kernel
theorem dX2_playFeet_1 : decode cX2_playFeet 1 = .ok (.istore_n 2, 1) := by decide +kernel
theorem dX2_playFeet_2 : decode cX2_playFeet 2 = .ok (.iload_n 2, 1) := by decide +kernel
theorem dX2_playFeet_3 : decode cX2_playFeet 3 = .ok (.aload_n 0, 1) := by decide +kernel
theorem dX2_playFeet_4 : decode cX2_playFeet 4 = .ok (.getfield 15, 3) := by decide +kernel
theorem dX2_playFeet_7 : decode cX2_playFeet 7 = .ok (.invokevirtual 53, 3) := by decide +kernel
theorem dX2_playFeet_10 : decode cX2_playFeet 10 = .ok (.if_icmp .ge 53, 3) := by decide +kernel
theorem dX2_playFeet_13 : decode cX2_playFeet 13 = .ok (.aload_n 0, 1) := by decide +kernel
theorem dX2_playFeet_14 : decode cX2_playFeet 14 = .ok (.getfield 23, 3) := by decide +kernel
theorem dX2_playFeet_17 : decode cX2_playFeet 17 = .ok (.iload_n 2, 1) := by decide +kernel
theorem dX2_playFeet_18 : decode cX2_playFeet 18 = .ok (.iload_n 1, 1) := by decide +kernel
theorem dX2_playFeet_19 : decode cX2_playFeet 19 = .ok (.invokevirtual 58, 3) := by decide +kernel
theorem dX2_playFeet_22 : decode cX2_playFeet 22 = .ok (.istore_n 3, 1) := by decide +kernel
theorem dX2_playFeet_23 : decode cX2_playFeet 23 = .ok (.aload_n 0, 1) := by decide +kernel
theorem dX2_playFeet_24 : decode cX2_playFeet 24 = .ok (.getfield 9, 3) := by decide +kernel
theorem dX2_playFeet_27 : decode cX2_playFeet 27 = .ok (.iload_n 3, 1) := by decide +kernel
theorem dX2_playFeet_28 : decode cX2_playFeet 28 = .ok (.invokevirtual 62, 3) := by decide +kernel
theorem dX2_playFeet_31 : decode cX2_playFeet 31 = .ok (.ifCond .eq 26, 3) := by decide +kernel
theorem dX2_playFeet_34 : decode cX2_playFeet 34 = .ok (.aload_n 0, 1) := by decide +kernel
theorem dX2_playFeet_35 : decode cX2_playFeet 35 = .ok (.invokevirtual 68, 3) := by decide +kernel
theorem dX2_playFeet_38 : decode cX2_playFeet 38 = .ok (.aload_n 0, 1) := by decide +kernel
theorem dX2_playFeet_39 : decode cX2_playFeet 39 = .ok (.getfield 23, 3) := by decide +kernel
theorem dX2_playFeet_42 : decode cX2_playFeet 42 = .ok (.iload_n 2, 1) := by decide +kernel
theorem dX2_playFeet_43 : decode cX2_playFeet 43 = .ok (.iload_n 3, 1) := by decide +kernel
theorem dX2_playFeet_44 : decode cX2_playFeet 44 = .ok (.invokevirtual 71, 3) := by decide +kernel
theorem dX2_playFeet_47 : decode cX2_playFeet 47 = .ok (.if_icmp .ge 10, 3) := by decide +kernel
theorem dX2_playFeet_50 : decode cX2_playFeet 50 = .ok (.aload_n 0, 1) := by decide +kernel
theorem dX2_playFeet_51 : decode cX2_playFeet 51 = .ok (.iload_n 3, 1) := by decide +kernel
theorem dX2_playFeet_52 : decode cX2_playFeet 52 = .ok (.iload_n 1, 1) := by decide +kernel
theorem dX2_playFeet_53 : decode cX2_playFeet 53 = .ok (.iload_n 2, 1) := by decide +kernel
theorem dX2_playFeet_54 : decode cX2_playFeet 54 = .ok (.invokevirtual 74, 3) := by decide +kernel
theorem dX2_playFeet_57 : decode cX2_playFeet 57 = .ok (.iinc 2 1, 3) := by decide +kernel
theorem dX2_playFeet_60 : decode cX2_playFeet 60 = .ok (.goto (-58), 3) := by decide +kernel
theorem dX2_playFeet_63 : decode cX2_playFeet 63 = .ok (.return_, 1) := by decide +kernel
theorem dX2_playSun_0 : decode cX2_playSun 0 = .ok (.iload_n 1, 1) := by decide +kernel
theorem dX2_playSun_1 : decode cX2_playSun 1 = .ok (.aload_n 0, 1) := by decide +kernel
theorem dX2_playSun_2 : decode cX2_playSun 2 = .ok (.getfield 19, 3) := by decide +kernel
theorem dX2_playSun_5 : decode cX2_playSun 5 = .ok (.getfield 78, 3) := by decide +kernel
theorem dX2_playSun_8 : decode cX2_playSun 8 = .ok (.if_icmp .ge 4, 3) := by decide +kernel
theorem dX2_playSun_11 : decode cX2_playSun 11 = .ok (.return_, 1) := by decide +kernel
theorem dX2_playSun_12 : decode cX2_playSun 12 = .ok (.iconst 0, 1) := by decide +kernel
theorem dX2_playSun_13 : decode cX2_playSun 13 = .ok (.istore_n 2, 1) := by decide +kernel
theorem dX2_playSun_14 : decode cX2_playSun 14 = .ok (.iload_n 2, 1) := by decide +kernel
theorem dX2_playSun_15 : decode cX2_playSun 15 = .ok (.aload_n 0, 1) := by decide +kernel
theorem dX2_playSun_16 : decode cX2_playSun 16 = .ok (.getfield 9, 3) := by decide +kernel
theorem dX2_playSun_19 : decode cX2_playSun 19 = .ok (.getfield 81, 3) := by decide +kernel
theorem dX2_playSun_22 : decode cX2_playSun 22 = .ok (.if_icmp .ge 41, 3) := by decide +kernel
theorem dX2_playSun_25 : decode cX2_playSun 25 = .ok (.aload_n 0, 1) := by decide +kernel
theorem dX2_playSun_26 : decode cX2_playSun 26 = .ok (.getfield 9, 3) := by decide +kernel
theorem dX2_playSun_29 : decode cX2_playSun 29 = .ok (.iload_n 2, 1) := by decide +kernel
theorem dX2_playSun_30 : decode cX2_playSun 30 = .ok (.invokevirtual 62, 3) := by decide +kernel
theorem dX2_playSun_33 : decode cX2_playSun 33 = .ok (.ifCond .eq 24, 3) := by decide +kernel
theorem dX2_playSun_36 : decode cX2_playSun 36 = .ok (.aload_n 0, 1) := by decide +kernel
theorem dX2_playSun_37 : decode cX2_playSun 37 = .ok (.invokevirtual 68, 3) := by decide +kernel
theorem dX2_playSun_40 : decode cX2_playSun 40 = .ok (.aload_n 0, 1) := by decide +kernel
theorem dX2_playSun_41 : decode cX2_playSun 41 = .ok (.getfield 19, 3) := by decide +kernel
theorem dX2_playSun_44 : decode cX2_playSun 44 = .ok (.getfield 84, 3) := by decide +kernel
theorem dX2_playSun_47 : decode cX2_playSun 47 = .ok (.if_icmp .ge 10, 3) := by decide +kernel
theorem dX2_playSun_50 : decode cX2_playSun 50 = .ok (.aload_n 0, 1) := by decide +kernel
theorem dX2_playSun_51 : decode cX2_playSun 51 = .ok (.iload_n 2, 1) := by decide +kernel
theorem dX2_playSun_52 : decode cX2_playSun 52 = .ok (.iload_n 1, 1) := by decide +kernel
theorem dX2_playSun_53 : decode cX2_playSun 53 = .ok (.iconst (-1), 1) := by decide +kernel
theorem dX2_playSun_54 : decode cX2_playSun 54 = .ok (.invokevirtual 74, 3) := by decide +kernel
theorem dX2_playSun_57 : decode cX2_playSun 57 = .ok (.iinc 2 1, 3) := by decide +kernel
theorem dX2_playSun_60 : decode cX2_playSun 60 = .ok (.goto (-46), 3) := by decide +kernel
theorem dX2_playSun_63 : decode cX2_playSun 63 = .ok (.return_, 1) := by decide +kernel
theorem dX2_drop_0 : decode cX2_drop 0 = .ok (.iconst 0, 1) := by decide +kernel
theorem dX2_drop_1 : decode cX2_drop 1 = .ok (.istore 4, 2) := by decide +kernel
theorem dX2_drop_3 : decode cX2_drop 3 = .ok (.iload 4, 2) := by decide +kernel
theorem dX2_drop_5 : decode cX2_drop 5 = .ok (.aload_n 0, 1) := by decide +kernel
theorem dX2_drop_6 : decode cX2_drop 6 = .ok (.getfield 15, 3) := by decide +kernel
theorem dX2_drop_9 : decode cX2_drop 9 = .ok (.invokevirtual 53, 3) := by decide +kernel
theorem dX2_drop_12 : decode cX2_drop 12 = .ok (.if_icmp .ge 96, 3) := by decide +kernel
theorem dX2_drop_15 : decode cX2_drop 15 = .ok (.iload_n 3, 1) := by decide +kernel
theorem dX2_drop_16 : decode cX2_drop 16 = .ok (.iconst (-1), 1) := by decide +kernel
theorem dX2_drop_17 : decode cX2_drop 17 = .ok (.if_icmp .eq 20, 3) := by decide +kernel
theorem dX2_drop_20 : decode cX2_drop 20 = .ok (.aload_n 0, 1) := by decide +kernel
theorem dX2_drop_21 : decode cX2_drop 21 = .ok (.getfield 23, 3) := by decide +kernel
theorem dX2_drop_24 : decode cX2_drop 24 = .ok (.iload_n 3, 1) := by decide +kernel
theorem dX2_drop_25 : decode cX2_drop 25 = .ok (.iload 4, 2) := by decide +kernel
theorem dX2_drop_27 : decode cX2_drop 27 = .ok (.invokevirtual 87, 3) := by decide +kernel
theorem dX2_drop_30 : decode cX2_drop 30 = .ok (.ifCond .eq 7, 3) := by decide +kernel
theorem dX2_drop_33 : decode cX2_drop 33 = .ok (.iconst 1, 1) := by decide +kernel
theorem dX2_drop_34 : decode cX2_drop 34 = .ok (.goto 4, 3) := by decide +kernel
theorem dX2_drop_37 : decode cX2_drop 37 = .ok (.iconst 0, 1) := by decide +kernel
theorem dX2_drop_38 : decode cX2_drop 38 = .ok (.istore 5, 2) := by decide +kernel
theorem dX2_drop_40 : decode cX2_drop 40 = .ok (.iload 5, 2) := by decide +kernel
theorem dX2_drop_42 : decode cX2_drop 42 = .ok (.ifCond .eq 7, 3) := by decide +kernel
theorem dX2_drop_45 : decode cX2_drop 45 = .ok (.iconst 0, 1) := by decide +kernel
theorem dX2_drop_46 : decode cX2_drop 46 = .ok (.goto 30, 3) := by decide +kernel
theorem dX2_drop_49 : decode cX2_drop 49 = .ok (.aload_n 0, 1) := by decide +kernel
theorem dX2_drop_50 : decode cX2_drop 50 = .ok (.getfield 23, 3) := by decide +kernel
theorem dX2_drop_53 : decode cX2_drop 53 = .ok (.iload_n 1, 1) := by decide +kernel
theorem dX2_drop_54 : decode cX2_drop 54 = .ok (.aload_n 0, 1) := by decide +kernel
theorem dX2_drop_55 : decode cX2_drop 55 = .ok (.getfield 23, 3) := by decide +kernel
theorem dX2_drop_58 : decode cX2_drop 58 = .ok (.iload 4, 2) := by decide +kernel
theorem dX2_drop_60 : decode cX2_drop 60 = .ok (.iload_n 2, 1) := by decide +kernel
theorem dX2_drop_61 : decode cX2_drop 61 = .ok (.invokevirtual 91, 3) := by decide +kernel
theorem dX2_drop_64 : decode cX2_drop 64 = .ok (.aload_n 0, 1) := by decide +kernel
theorem dX2_drop_65 : decode cX2_drop 65 = .ok (.getfield 15, 3) := by decide +kernel
theorem dX2_drop_68 : decode cX2_drop 68 = .ok (.iload 4, 2) := by decide +kernel
theorem dX2_drop_70 : decode cX2_drop 70 = .ok (.invokevirtual 94, 3) := by decide +kernel
theorem dX2_drop_73 : decode cX2_drop 73 = .ok (.invokevirtual 98, 3) := by decide +kernel
theorem dX2_drop_76 : decode cX2_drop 76 = .ok (.istore 6, 2) := by decide +kernel
theorem dX2_drop_78 : decode cX2_drop 78 = .ok (.iload 6, 2) := by decide +kernel
theorem dX2_drop_80 : decode cX2_drop 80 = .ok (.ifCond .le 22, 3) := by decide +kernel
theorem dX2_drop_83 : decode cX2_drop 83 = .ok (.aload_n 0, 1) := by decide +kernel
theorem dX2_drop_84 : decode cX2_drop 84 = .ok (.invokevirtual 68, 3) := by decide +kernel
theorem dX2_drop_87 : decode cX2_drop 87 = .ok (.iload 6, 2) := by decide +kernel
theorem dX2_drop_89 : decode cX2_drop 89 = .ok (.if_icmp .ge 13, 3) := by decide +kernel
theorem dX2_drop_92 : decode cX2_drop 92 = .ok (.aload_n 0, 1) := by decide +kernel
theorem dX2_drop_93 : decode cX2_drop 93 = .ok (.dup, 1) := by decide +kernel
theorem dX2_drop_94 : decode cX2_drop 94 = .ok (.getfield 31, 3) := by decide +kernel
theorem dX2_drop_97 : decode cX2_drop 97 = .ok (.iconst 1, 1) := by decide +kernel
theorem dX2_drop_98 : decode cX2_drop 98 = .ok (.iadd, 1) := by decide +kernel
theorem dX2_drop_99 : decode cX2_drop 99 = .ok (.putfield 31, 3) := by decide +kernel
theorem dX2_drop_102 : decode cX2_drop 102 = .ok (.iinc 4 1, 3) := by decide +kernel
theorem dX2_drop_105 : decode cX2_drop 105 = .ok (.goto (-102), 3) := by decide +kernel
theorem dX2_drop_108 : decode cX2_drop 108 = .ok (.return_, 1) := by decide +kernel
theorem dX3_init_0 : decode cX3_init 0 = .ok (.aload_n 0, 1) := by decide +kernel
theorem dX3_init_1 : decode cX3_init 1 = .ok (.invokespecial 3, 3) := by decide +kernel
theorem dX3_init_4 : decode cX3_init 4 = .ok (.aload_n 0, 1) := by decide +kernel
theorem dX3_init_5 : decode cX3_init 5 = .ok (.bipush 72, 2) := by decide +kernel
theorem dX3_init_7 : decode cX3_init 7 = .ok (.newarray .long, 2) := by decide +kernel
theorem dX3_init_9 : decode cX3_init 9 = .ok (.putfield 9, 3) := by decide +kernel
theorem dX3_init_12 : decode cX3_init 12 = .ok (.aload_n 0, 1) := by decide +kernel
theorem dX3_init_13 : decode cX3_init 13 = .ok (.bipush 12, 2) := by decide +kernel
theorem dX3_init_15 : decode cX3_init 15 = .ok (.newarray .long, 2) := by decide +kernel
theorem dX3_init_17 : decode cX3_init 17 = .ok (.putfield 15, 3) := by decide +kernel
theorem dX3_init_20 : decode cX3_init 20 = .ok (.aload_n 0, 1) := by decide +kernel
theorem dX3_init_21 : decode cX3_init 21 = .ok (.bipush 6, 2) := by decide +kernel
theorem dX3_init_23 : decode cX3_init 23 = .ok (.newarray .int, 2) := by decide +kernel
theorem dX3_init_25 : decode cX3_init 25 = .ok (.putfield 18, 3) := by decide +kernel
theorem dX3_init_28 : decode cX3_init 28 = .ok (.aload_n 0, 1) := by decide +kernel
theorem dX3_init_29 : decode cX3_init 29 = .ok (.bipush 6, 2) := by decide +kernel
theorem dX3_init_31 : decode cX3_init 31 = .ok (.newarray .int, 2) := by decide +kernel
theorem dX3_init_33 : decode cX3_init 33 = .ok (.putfield 22, 3) := by decide +kernel
theorem dX3_init_36 : decode cX3_init 36 = .ok (.aload_n 0, 1) := by decide +kernel
theorem dX3_init_37 : decode cX3_init 37 = .ok (.aload_n 1, 1) := by decide +kernel
theorem dX3_init_38 : decode cX3_init 38 = .ok (.putfield 25, 3) := by decide +kernel
theorem dX3_init_41 : decode cX3_init 41 = .ok (.aload_n 0, 1) := by decide +kernel
theorem dX3_init_42 : decode cX3_init 42 = .ok (.aload_n 2, 1) := by decide +kernel
theorem dX3_init_43 : decode cX3_init 43 = .ok (.putfield 29, 3) := by decide +kernel
theorem dX3_init_46 : decode cX3_init 46 = .ok (.aload_n 0, 1) := by decide +kernel
theorem dX3_init_47 : decode cX3_init 47 = .ok (.aload_n 3, 1) := by decide +kernel
theorem dX3_init_48 : decode cX3_init 48 = .ok (.putfield 33, 3) := by decide +kernel
theorem dX3_init_51 : decode cX3_init 51 = .ok (.return_, 1) := by decide +kernel
theorem dX3_search_0 : decode cX3_search 0 = .ok (.aload_n 0, 1) := by decide +kernel
theorem dX3_search_1 : decode cX3_search 1 = .ok (.invokevirtual 37, 3) := by decide +kernel
theorem dX3_search_4 : decode cX3_search 4 = .ok (.aload_n 0, 1) := by decide +kernel
theorem dX3_search_5 : decode cX3_search 5 = .ok (.ldc2_w 40, 3) := by decide +kernel
theorem dX3_search_8 : decode cX3_search 8 = .ok (.putfield 42, 3) := by decide +kernel
theorem dX3_search_11 : decode cX3_search 11 = .ok (.aload_n 0, 1) := by decide +kernel
theorem dX3_search_12 : decode cX3_search 12 = .ok (.iconst 0, 1) := by decide +kernel
theorem dX3_search_13 : decode cX3_search 13 = .ok (.iconst 0, 1) := by decide +kernel
theorem dX3_search_14 : decode cX3_search 14 = .ok (.lconst 0, 1) := by decide +kernel
theorem dX3_search_15 : decode cX3_search 15 = .ok (.invokevirtual 46, 3) := by decide +kernel
theorem dX3_search_18 : decode cX3_search 18 = .ok (.aload_n 0, 1) := by decide +kernel
theorem dX3_search_19 : decode cX3_search 19 = .ok (.getfield 42, 3) := by decide +kernel
theorem dX3_search_22 : decode cX3_search 22 = .ok (.lreturn, 1) := by decide +kernel
theorem dX3_at_0 : decode cX3_at 0 = .ok (.aload_n 0, 1) := by decide +kernel
theorem dX3_at_1 : decode cX3_at 1 = .ok (.getfield 25, 3) := by decide +kernel
theorem dX3_at_4 : decode cX3_at 4 = .ok (.iload_n 1, 1) := by decide +kernel
theorem dX3_at_5 : decode cX3_at 5 = .ok (.invokevirtual 50, 3) := by decide +kernel
theorem dX3_at_8 : decode cX3_at 8 = .ok (.ifCond .eq 21, 3) := by decide +kernel
theorem dX3_at_11 : decode cX3_at 11 = .ok (.iload_n 1, 1) := by decide +kernel
theorem dX3_at_12 : decode cX3_at 12 = .ok (.aload_n 0, 1) := by decide +kernel
theorem dX3_at_13 : decode cX3_at 13 = .ok (.getfield 22, 3) := by decide +kernel
theorem dX3_at_16 : decode cX3_at 16 = .ok (.arraylength, 1) := by decide +kernel
theorem dX3_at_17 : decode cX3_at 17 = .ok (.if_icmp .ge 12, 3) := by decide +kernel
theorem dX3_at_20 : decode cX3_at 20 = .ok (.aload_n 0, 1) := by decide +kernel
theorem dX3_at_21 : decode cX3_at 21 = .ok (.getfield 22, 3) := by decide +kernel
theorem dX3_at_24 : decode cX3_at 24 = .ok (.iload_n 1, 1) := by decide +kernel
theorem dX3_at_25 : decode cX3_at 25 = .ok (.iaload, 1) := by decide +kernel
theorem dX3_at_26 : decode cX3_at 26 = .ok (.goto 4, 3) := by decide +kernel
theorem dX3_at_29 : decode cX3_at 29 = .ok (.iconst (-1), 1) := by decide +kernel
theorem dX3_at_30 : decode cX3_at 30 = .ok (.ireturn, 1) := by decide +kernel
theorem dX3_prepare_0 : decode cX3_prepare 0 = .ok (.iconst 0, 1) := by decide +kernel
theorem dX3_prepare_1 : decode cX3_prepare 1 = .ok (.istore_n 1, 1) := by decide +kernel
theorem dX3_prepare_2 : decode cX3_prepare 2 = .ok (.iload_n 1, 1) := by decide +kernel
theorem dX3_prepare_3 : decode cX3_prepare 3 = .ok (.aload_n 0, 1) := by decide +kernel
theorem dX3_prepare_4 : decode cX3_prepare 4 = .ok (.getfield 15, 3) := by decide +kernel
theorem dX3_prepare_7 : decode cX3_prepare 7 = .ok (.arraylength, 1) := by decide +kernel
theorem dX3_prepare_8 : decode cX3_prepare 8 = .ok (.if_icmp .ge 35, 3) := by decide +kernel
theorem dX3_prepare_11 : decode cX3_prepare 11 = .ok (.aload_n 0, 1) := by decide +kernel
theorem dX3_prepare_12 : decode cX3_prepare 12 = .ok (.getfield 15, 3) := by decide +kernel
theorem dX3_prepare_15 : decode cX3_prepare 15 = .ok (.iload_n 1, 1) := by decide +kernel
theorem dX3_prepare_16 : decode cX3_prepare 16 = .ok (.aload_n 0, 1) := by decide +kernel
theorem dX3_prepare_17 : decode cX3_prepare 17 = .ok (.getfield 33, 3) := by decide +kernel
theorem dX3_prepare_20 : decode cX3_prepare 20 = .ok (.iload_n 1, 1) := by decide +kernel
theorem dX3_prepare_21 : decode cX3_prepare 21 = .ok (.iconst 2, 1) := by decide +kernel
theorem dX3_prepare_22 : decode cX3_prepare 22 = .ok (.idiv, 1) := by decide +kernel
theorem dX3_prepare_23 : decode cX3_prepare 23 = .ok (.iload_n 1, 1) := by decide +kernel
theorem dX3_prepare_24 : decode cX3_prepare 24 = .ok (.iconst 2, 1) := by decide +kernel
theorem dX3_prepare_25 : decode cX3_prepare 25 = .ok (.irem, 1) := by decide +kernel
theorem dX3_prepare_26 : decode cX3_prepare 26 = .ok (.aload_n 0, 1) := by decide +kernel
theorem dX3_prepare_27 : decode cX3_prepare 27 = .ok (.getfield 29, 3) := by decide +kernel
theorem dX3_prepare_30 : decode cX3_prepare 30 = .ok (.getfield 56, 3) := by decide +kernel
theorem dX3_prepare_33 : decode cX3_prepare 33 = .ok (.invokevirtual 62, 3) := by decide +kernel
theorem dX3_prepare_36 : decode cX3_prepare 36 = .ok (.lastore, 1) := by decide +kernel
theorem dX3_prepare_37 : decode cX3_prepare 37 = .ok (.iinc 1 1, 3) := by decide +kernel
theorem dX3_prepare_40 : decode cX3_prepare 40 = .ok (.goto (-38), 3) := by decide +kernel
theorem dX3_prepare_43 : decode cX3_prepare 43 = .ok (.iconst 0, 1) := by decide +kernel
theorem dX3_prepare_44 : decode cX3_prepare 44 = .ok (.istore_n 1, 1) := by decide +kernel
theorem dX3_prepare_45 : decode cX3_prepare 45 = .ok (.iload_n 1, 1) := by decide +kernel
theorem dX3_prepare_46 : decode cX3_prepare 46 = .ok (.aload_n 0, 1) := by decide +kernel
theorem dX3_prepare_47 : decode cX3_prepare 47 = .ok (.getfield 9, 3) := by decide +kernel
theorem dX3_prepare_50 : decode cX3_prepare 50 = .ok (.arraylength, 1) := by decide +kernel
theorem dX3_prepare_51 : decode cX3_prepare 51 = .ok (.if_icmp .ge 104, 3) := by decide +kernel
theorem dX3_prepare_54 : decode cX3_prepare 54 = .ok (.iload_n 1, 1) := by decide +kernel
theorem dX3_prepare_55 : decode cX3_prepare 55 = .ok (.bipush 12, 2) := by decide +kernel
theorem dX3_prepare_57 : decode cX3_prepare 57 = .ok (.idiv, 1) := by decide +kernel
theorem dX3_prepare_58 : decode cX3_prepare 58 = .ok (.istore_n 2, 1) := by decide +kernel
theorem dX3_prepare_59 : decode cX3_prepare 59 = .ok (.iload_n 1, 1) := by decide +kernel
theorem dX3_prepare_60 : decode cX3_prepare 60 = .ok (.iconst 2, 1) := by decide +kernel
theorem dX3_prepare_61 : decode cX3_prepare 61 = .ok (.idiv, 1) := by decide +kernel
theorem dX3_prepare_62 : decode cX3_prepare 62 = .ok (.bipush 6, 2) := by decide +kernel
theorem dX3_prepare_64 : decode cX3_prepare 64 = .ok (.irem, 1) := by decide +kernel
theorem dX3_prepare_65 : decode cX3_prepare 65 = .ok (.istore_n 3, 1) := by decide +kernel
theorem dX3_prepare_66 : decode cX3_prepare 66 = .ok (.aload_n 0, 1) := by decide +kernel
theorem dX3_prepare_67 : decode cX3_prepare 67 = .ok (.getfield 25, 3) := by decide +kernel
theorem dX3_prepare_70 : decode cX3_prepare 70 = .ok (.iload_n 2, 1) := by decide +kernel
theorem dX3_prepare_71 : decode cX3_prepare 71 = .ok (.invokevirtual 50, 3) := by decide +kernel
theorem dX3_prepare_74 : decode cX3_prepare 74 = .ok (.ifCond .eq 19, 3) := by decide +kernel
theorem dX3_prepare_77 : decode cX3_prepare 77 = .ok (.aload_n 0, 1) := by decide +kernel
theorem dX3_prepare_78 : decode cX3_prepare 78 = .ok (.getfield 33, 3) := by decide +kernel
theorem dX3_prepare_81 : decode cX3_prepare 81 = .ok (.iconst 0, 1) := by decide +kernel
theorem dX3_prepare_82 : decode cX3_prepare 82 = .ok (.iload_n 3, 1) := by decide +kernel
theorem dX3_prepare_83 : decode cX3_prepare 83 = .ok (.invokevirtual 68, 3) := by decide +kernel
theorem dX3_prepare_86 : decode cX3_prepare 86 = .ok (.ifCond .ne 7, 3) := by decide +kernel
theorem dX3_prepare_89 : decode cX3_prepare 89 = .ok (.iconst 1, 1) := by decide +kernel
theorem dX3_prepare_90 : decode cX3_prepare 90 = .ok (.goto 4, 3) := by decide +kernel
theorem dX3_prepare_93 : decode cX3_prepare 93 = .ok (.iconst 0, 1) := by decide +kernel
theorem dX3_prepare_94 : decode cX3_prepare 94 = .ok (.istore 4, 2) := by decide +kernel
theorem dX3_prepare_96 : decode cX3_prepare 96 = .ok (.iload_n 3, 1) := by decide +kernel
theorem dX3_prepare_97 : decode cX3_prepare 97 = .ok (.aload_n 0, 1) := by decide +kernel
theorem dX3_prepare_98 : decode cX3_prepare 98 = .ok (.getfield 29, 3) := by decide +kernel
theorem dX3_prepare_101 : decode cX3_prepare 101 = .ok (.getfield 56, 3) := by decide +kernel
theorem dX3_prepare_104 : decode cX3_prepare 104 = .ok (.imul, 1) := by decide +kernel
theorem dX3_prepare_105 : decode cX3_prepare 105 = .ok (.istore 5, 2) := by decide +kernel
theorem dX3_prepare_107 : decode cX3_prepare 107 = .ok (.aload_n 0, 1) := by decide +kernel
theorem dX3_prepare_108 : decode cX3_prepare 108 = .ok (.getfield 9, 3) := by decide +kernel
theorem dX3_prepare_111 : decode cX3_prepare 111 = .ok (.iload_n 1, 1) := by decide +kernel
theorem dX3_prepare_112 : decode cX3_prepare 112 = .ok (.iload 4, 2) := by decide +kernel
theorem dX3_prepare_114 : decode cX3_prepare 114 = .ok (.ifCond .eq 33, 3) := by decide +kernel
theorem dX3_prepare_117 : decode cX3_prepare 117 = .ok (.aload_n 0, 1) := by decide +kernel
theorem dX3_prepare_118 : decode cX3_prepare 118 = .ok (.getfield 33, 3) := by decide +kernel
theorem dX3_prepare_121 : decode cX3_prepare 121 = .ok (.aload_n 0, 1) := by decide +kernel
theorem dX3_prepare_122 : decode cX3_prepare 122 = .ok (.getfield 25, 3) := by decide +kernel
theorem dX3_prepare_125 : decode cX3_prepare 125 = .ok (.iload_n 2, 1) := by decide +kernel
theorem dX3_prepare_126 : decode cX3_prepare 126 = .ok (.invokevirtual 72, 3) := by decide +kernel
theorem dX3_prepare_129 : decode cX3_prepare 129 = .ok (.iload 5, 2) := by decide +kernel
theorem dX3_prepare_131 : decode cX3_prepare 131 = .ok (.aload_n 0, 1) := by decide +kernel
theorem dX3_prepare_132 : decode cX3_prepare 132 = .ok (.getfield 29, 3) := by decide +kernel
theorem dX3_prepare_135 : decode cX3_prepare 135 = .ok (.invokevirtual 76, 3) := by decide +kernel
theorem dX3_prepare_138 : decode cX3_prepare 138 = .ok (.iload_n 1, 1) := by decide +kernel
theorem dX3_prepare_139 : decode cX3_prepare 139 = .ok (.iconst 2, 1) := by decide +kernel
theorem dX3_prepare_140 : decode cX3_prepare 140 = .ok (.irem, 1) := by decide +kernel
theorem dX3_prepare_141 : decode cX3_prepare 141 = .ok (.invokevirtual 80, 3) := by decide +kernel
theorem dX3_prepare_144 : decode cX3_prepare 144 = .ok (.goto 4, 3) := by decide +kernel
theorem dX3_prepare_147 : decode cX3_prepare 147 = .ok (.lconst 0, 1) := by decide +kernel
theorem dX3_prepare_148 : decode cX3_prepare 148 = .ok (.lastore, 1) := by decide +kernel
theorem dX3_prepare_149 : decode cX3_prepare 149 = .ok (.iinc 1 1, 3) := by decide +kernel
theorem dX3_prepare_152 : decode cX3_prepare 152 = .ok (.goto (-107), 3) := by decide +kernel
theorem dX3_prepare_155 : decode cX3_prepare 155 = .ok (.return_, 1) := by decide +kernel
theorem dX3_extend_0 : decode cX3_extend 0 = .ok (.lload_n 3, 1) := by decide +kernel
theorem dX3_extend_1 : decode cX3_extend 1 = .ok (.aload_n 0, 1) := by decide +kernel
theorem dX3_extend_2 : decode cX3_extend 2 = .ok (.getfield 42, 3) := by decide +kernel
theorem dX3_extend_5 : decode cX3_extend 5 = .ok (.lcmp, 1) := by decide +kernel
theorem dX3_extend_6 : decode cX3_extend 6 = .ok (.ifCond .lt 4, 3) := by decide +kernel
theorem dX3_extend_9 : decode cX3_extend 9 = .ok (.return_, 1) := by decide +kernel
theorem dX3_extend_10 : decode cX3_extend 10 = .ok (.iload_n 1, 1) := by decide +kernel
theorem dX3_extend_11 : decode cX3_extend 11 = .ok (.aload_n 0, 1) := by decide +kernel
theorem dX3_extend_12 : decode cX3_extend 12 = .ok (.getfield 25, 3) := by decide +kernel
theorem dX3_extend_15 : decode cX3_extend 15 = .ok (.invokevirtual 84, 3) := by decide +kernel
theorem dX3_extend_18 : decode cX3_extend 18 = .ok (.if_icmp .ge 13, 3) := by decide +kernel
theorem dX3_extend_21 : decode cX3_extend 21 = .ok (.aload_n 0, 1) := by decide +kernel
theorem dX3_extend_22 : decode cX3_extend 22 = .ok (.iload_n 1, 1) := by decide +kernel
theorem dX3_extend_23 : decode cX3_extend 23 = .ok (.iload_n 2, 1) := by decide +kernel
theorem dX3_extend_24 : decode cX3_extend 24 = .ok (.lload_n 3, 1) := by decide +kernel
theorem dX3_extend_25 : decode cX3_extend 25 = .ok (.invokevirtual 87, 3) := by decide +kernel
theorem dX3_extend_28 : decode cX3_extend 28 = .ok (.goto 26, 3) := by decide +kernel
theorem dX3_extend_31 : decode cX3_extend 31 = .ok (.aload_n 0, 1) := by decide +kernel
theorem dX3_extend_32 : decode cX3_extend 32 = .ok (.lload_n 3, 1) := by decide +kernel
theorem dX3_extend_33 : decode cX3_extend 33 = .ok (.putfield 42, 3) := by decide +kernel
theorem dX3_extend_36 : decode cX3_extend 36 = .ok (.aload_n 0, 1) := by decide +kernel
theorem dX3_extend_37 : decode cX3_extend 37 = .ok (.getfield 18, 3) := by decide +kernel
theorem dX3_extend_40 : decode cX3_extend 40 = .ok (.iconst 0, 1) := by decide +kernel
theorem dX3_extend_41 : decode cX3_extend 41 = .ok (.aload_n 0, 1) := by decide +kernel
theorem dX3_extend_42 : decode cX3_extend 42 = .ok (.getfield 22, 3) := by decide +kernel
theorem dX3_extend_45 : decode cX3_extend 45 = .ok (.iconst 0, 1) := by decide +kernel
theorem dX3_extend_46 : decode cX3_extend 46 = .ok (.aload_n 0, 1) := by decide +kernel
theorem dX3_extend_47 : decode cX3_extend 47 = .ok (.getfield 18, 3) := by decide +kernel
theorem dX3_extend_50 : decode cX3_extend 50 = .ok (.arraylength, 1) := by decide +kernel
theorem dX3_extend_51 : decode cX3_extend 51 = .ok (.invokestatic 90, 3) := by decide +kernel
theorem dX3_extend_54 : decode cX3_extend 54 = .ok (.return_, 1) := by decide +kernel
theorem dX3_tryEach_0 : decode cX3_tryEach 0 = .ok (.iload_n 1, 1) := by decide +kernel
theorem dX3_tryEach_1 : decode cX3_tryEach 1 = .ok (.ifCond .lt 12, 3) := by decide +kernel
theorem dX3_tryEach_4 : decode cX3_tryEach 4 = .ok (.iload_n 1, 1) := by decide +kernel
theorem dX3_tryEach_5 : decode cX3_tryEach 5 = .ok (.aload_n 0, 1) := by decide +kernel
theorem dX3_tryEach_6 : decode cX3_tryEach 6 = .ok (.getfield 18, 3) := by decide +kernel
theorem dX3_tryEach_9 : decode cX3_tryEach 9 = .ok (.arraylength, 1) := by decide +kernel
theorem dX3_tryEach_10 : decode cX3_tryEach 10 = .ok (.if_icmp .lt 4, 3) := by decide +kernel
theorem dX3_tryEach_13 : decode cX3_tryEach 13 = .ok (.return_, 1) := by decide +kernel
theorem dX3_tryEach_14 : decode cX3_tryEach 14 = .ok (.iconst 0, 1) := by decide +kernel
theorem dX3_tryEach_15 : decode cX3_tryEach 15 = .ok (.istore 5, 2) := by decide +kernel
theorem dX3_tryEach_17 : decode cX3_tryEach 17 = .ok (.iload 5, 2) := by decide +kernel
theorem dX3_tryEach_19 : decode cX3_tryEach 19 = .ok (.aload_n 0, 1) := by decide +kernel
theorem dX3_tryEach_20 : decode cX3_tryEach 20 = .ok (.getfield 25, 3) := by decide +kernel
theorem dX3_tryEach_23 : decode cX3_tryEach 23 = .ok (.invokevirtual 84, 3) := by decide +kernel
theorem dX3_tryEach_26 : decode cX3_tryEach 26 = .ok (.if_icmp .ge 55, 3) := by decide +kernel
theorem dX3_tryEach_29 : decode cX3_tryEach 29 = .ok (.iload_n 2, 1) := by decide +kernel
theorem dX3_tryEach_30 : decode cX3_tryEach 30 = .ok (.iload 5, 2) := by decide +kernel
theorem dX3_tryEach_32 : decode cX3_tryEach 32 = .ok (.ishr, 1) := by decide +kernel
theorem dX3_tryEach_33 : decode cX3_tryEach 33 = .ok (.iconst 1, 1) := by decide +kernel
theorem dX3_tryEach_34 : decode cX3_tryEach 34 = .ok (.iand, 1) := by decide +kernel
theorem dX3_tryEach_35 : decode cX3_tryEach 35 = .ok (.ifCond .ne 40, 3) := by decide +kernel
theorem dX3_tryEach_38 : decode cX3_tryEach 38 = .ok (.aload_n 0, 1) := by decide +kernel
theorem dX3_tryEach_39 : decode cX3_tryEach 39 = .ok (.getfield 18, 3) := by decide +kernel
theorem dX3_tryEach_42 : decode cX3_tryEach 42 = .ok (.iload_n 1, 1) := by decide +kernel
theorem dX3_tryEach_43 : decode cX3_tryEach 43 = .ok (.iload 5, 2) := by decide +kernel
theorem dX3_tryEach_45 : decode cX3_tryEach 45 = .ok (.iastore, 1) := by decide +kernel
theorem dX3_tryEach_46 : decode cX3_tryEach 46 = .ok (.aload_n 0, 1) := by decide +kernel
theorem dX3_tryEach_47 : decode cX3_tryEach 47 = .ok (.iload_n 1, 1) := by decide +kernel
theorem dX3_tryEach_48 : decode cX3_tryEach 48 = .ok (.iconst 1, 1) := by decide +kernel
theorem dX3_tryEach_49 : decode cX3_tryEach 49 = .ok (.iadd, 1) := by decide +kernel
theorem dX3_tryEach_50 : decode cX3_tryEach 50 = .ok (.iload_n 2, 1) := by decide +kernel
theorem dX3_tryEach_51 : decode cX3_tryEach 51 = .ok (.iconst 1, 1) := by decide +kernel
theorem dX3_tryEach_52 : decode cX3_tryEach 52 = .ok (.iload 5, 2) := by decide +kernel
theorem dX3_tryEach_54 : decode cX3_tryEach 54 = .ok (.ishl, 1) := by decide +kernel
theorem dX3_tryEach_55 : decode cX3_tryEach 55 = .ok (.ior, 1) := by decide +kernel
theorem dX3_tryEach_56 : decode cX3_tryEach 56 = .ok (.lload_n 3, 1) := by decide +kernel
theorem dX3_tryEach_57 : decode cX3_tryEach 57 = .ok (.aload_n 0, 1) := by decide +kernel
theorem dX3_tryEach_58 : decode cX3_tryEach 58 = .ok (.iload_n 1, 1) := by decide +kernel
theorem dX3_tryEach_59 : decode cX3_tryEach 59 = .ok (.aload_n 0, 1) := by decide +kernel
theorem dX3_tryEach_60 : decode cX3_tryEach 60 = .ok (.getfield 25, 3) := by decide +kernel
theorem dX3_tryEach_63 : decode cX3_tryEach 63 = .ok (.iload 5, 2) := by decide +kernel
theorem dX3_tryEach_65 : decode cX3_tryEach 65 = .ok (.invokevirtual 96, 3) := by decide +kernel
theorem dX3_tryEach_68 : decode cX3_tryEach 68 = .ok (.invokevirtual 99, 3) := by decide +kernel
theorem dX3_tryEach_71 : decode cX3_tryEach 71 = .ok (.ladd, 1) := by decide +kernel
theorem dX3_tryEach_72 : decode cX3_tryEach 72 = .ok (.invokevirtual 46, 3) := by decide +kernel
theorem dX3_tryEach_75 : decode cX3_tryEach 75 = .ok (.iinc 5 1, 3) := by decide +kernel
theorem dX3_tryEach_78 : decode cX3_tryEach 78 = .ok (.goto (-61), 3) := by decide +kernel
theorem dX3_tryEach_81 : decode cX3_tryEach 81 = .ok (.return_, 1) := by decide +kernel
theorem dX3_harmAt_0 : decode cX3_harmAt 0 = .ok (.iconst 2, 1) := by decide +kernel
theorem dX3_harmAt_1 : decode cX3_harmAt 1 = .ok (.iload_n 1, 1) := by decide +kernel
theorem dX3_harmAt_2 : decode cX3_harmAt 2 = .ok (.imul, 1) := by decide +kernel
theorem dX3_harmAt_3 : decode cX3_harmAt 3 = .ok (.iload_n 2, 1) := by decide +kernel
theorem dX3_harmAt_4 : decode cX3_harmAt 4 = .ok (.iadd, 1) := by decide +kernel
theorem dX3_harmAt_5 : decode cX3_harmAt 5 = .ok (.istore_n 3, 1) := by decide +kernel
theorem dX3_harmAt_6 : decode cX3_harmAt 6 = .ok (.iload_n 3, 1) := by decide +kernel
theorem dX3_harmAt_7 : decode cX3_harmAt 7 = .ok (.ifCond .lt 21, 3) := by decide +kernel
theorem dX3_harmAt_10 : decode cX3_harmAt 10 = .ok (.iload_n 3, 1) := by decide +kernel
theorem dX3_harmAt_11 : decode cX3_harmAt 11 = .ok (.aload_n 0, 1) := by decide +kernel
theorem dX3_harmAt_12 : decode cX3_harmAt 12 = .ok (.getfield 15, 3) := by decide +kernel
theorem dX3_harmAt_15 : decode cX3_harmAt 15 = .ok (.arraylength, 1) := by decide +kernel
theorem dX3_harmAt_16 : decode cX3_harmAt 16 = .ok (.if_icmp .ge 12, 3) := by decide +kernel
theorem dX3_harmAt_19 : decode cX3_harmAt 19 = .ok (.aload_n 0, 1) := by decide +kernel
theorem dX3_harmAt_20 : decode cX3_harmAt 20 = .ok (.getfield 15, 3) := by decide +kernel
theorem dX3_harmAt_23 : decode cX3_harmAt 23 = .ok (.iload_n 3, 1) := by decide +kernel
theorem dX3_harmAt_24 : decode cX3_harmAt 24 = .ok (.laload, 1) := by decide +kernel
theorem dX3_harmAt_25 : decode cX3_harmAt 25 = .ok (.goto 4, 3) := by decide +kernel
theorem dX3_harmAt_28 : decode cX3_harmAt 28 = .ok (.lconst 0, 1) := by decide +kernel
theorem dX3_harmAt_29 : decode cX3_harmAt 29 = .ok (.lstore 4, 2) := by decide +kernel
theorem dX3_harmAt_31 : decode cX3_harmAt 31 = .ok (.iconst 0, 1) := by decide +kernel
theorem dX3_harmAt_32 : decode cX3_harmAt 32 = .ok (.istore 6, 2) := by decide +kernel
theorem dX3_harmAt_34 : decode cX3_harmAt 34 = .ok (.iload 6, 2) := by decide +kernel
theorem dX3_harmAt_36 : decode cX3_harmAt 36 = .ok (.iload_n 1, 1) := by decide +kernel
theorem dX3_harmAt_37 : decode cX3_harmAt 37 = .ok (.if_icmp .ge 67, 3) := by decide +kernel
theorem dX3_harmAt_40 : decode cX3_harmAt 40 = .ok (.iload 6, 2) := by decide +kernel
theorem dX3_harmAt_42 : decode cX3_harmAt 42 = .ok (.aload_n 0, 1) := by decide +kernel
theorem dX3_harmAt_43 : decode cX3_harmAt 43 = .ok (.getfield 18, 3) := by decide +kernel
theorem dX3_harmAt_46 : decode cX3_harmAt 46 = .ok (.arraylength, 1) := by decide +kernel
theorem dX3_harmAt_47 : decode cX3_harmAt 47 = .ok (.if_icmp .ge 57, 3) := by decide +kernel
theorem dX3_harmAt_50 : decode cX3_harmAt 50 = .ok (.aload_n 0, 1) := by decide +kernel
theorem dX3_harmAt_51 : decode cX3_harmAt 51 = .ok (.getfield 18, 3) := by decide +kernel
theorem dX3_harmAt_54 : decode cX3_harmAt 54 = .ok (.iload 6, 2) := by decide +kernel
theorem dX3_harmAt_56 : decode cX3_harmAt 56 = .ok (.iaload, 1) := by decide +kernel
theorem dX3_harmAt_57 : decode cX3_harmAt 57 = .ok (.bipush 6, 2) := by decide +kernel
theorem dX3_harmAt_59 : decode cX3_harmAt 59 = .ok (.imul, 1) := by decide +kernel
theorem dX3_harmAt_60 : decode cX3_harmAt 60 = .ok (.iload_n 1, 1) := by decide +kernel
theorem dX3_harmAt_61 : decode cX3_harmAt 61 = .ok (.iadd, 1) := by decide +kernel
theorem dX3_harmAt_62 : decode cX3_harmAt 62 = .ok (.iload 6, 2) := by decide +kernel
theorem dX3_harmAt_64 : decode cX3_harmAt 64 = .ok (.isub, 1) := by decide +kernel
theorem dX3_harmAt_65 : decode cX3_harmAt 65 = .ok (.iconst 2, 1) := by decide +kernel
theorem dX3_harmAt_66 : decode cX3_harmAt 66 = .ok (.imul, 1) := by decide +kernel
theorem dX3_harmAt_67 : decode cX3_harmAt 67 = .ok (.iload_n 2, 1) := by decide +kernel
theorem dX3_harmAt_68 : decode cX3_harmAt 68 = .ok (.iadd, 1) := by decide +kernel
theorem dX3_harmAt_69 : decode cX3_harmAt 69 = .ok (.istore 7, 2) := by decide +kernel
theorem dX3_harmAt_71 : decode cX3_harmAt 71 = .ok (.iload 7, 2) := by decide +kernel
theorem dX3_harmAt_73 : decode cX3_harmAt 73 = .ok (.ifCond .lt 25, 3) := by decide +kernel
theorem dX3_harmAt_76 : decode cX3_harmAt 76 = .ok (.iload 7, 2) := by decide +kernel
theorem dX3_harmAt_78 : decode cX3_harmAt 78 = .ok (.aload_n 0, 1) := by decide +kernel
theorem dX3_harmAt_79 : decode cX3_harmAt 79 = .ok (.getfield 9, 3) := by decide +kernel
theorem dX3_harmAt_82 : decode cX3_harmAt 82 = .ok (.arraylength, 1) := by decide +kernel
theorem dX3_harmAt_83 : decode cX3_harmAt 83 = .ok (.if_icmp .ge 15, 3) := by decide +kernel
theorem dX3_harmAt_86 : decode cX3_harmAt 86 = .ok (.lload 4, 2) := by decide +kernel
theorem dX3_harmAt_88 : decode cX3_harmAt 88 = .ok (.aload_n 0, 1) := by decide +kernel
theorem dX3_harmAt_89 : decode cX3_harmAt 89 = .ok (.getfield 9, 3) := by decide +kernel
theorem dX3_harmAt_92 : decode cX3_harmAt 92 = .ok (.iload 7, 2) := by decide +kernel
theorem dX3_harmAt_94 : decode cX3_harmAt 94 = .ok (.laload, 1) := by decide +kernel
theorem dX3_harmAt_95 : decode cX3_harmAt 95 = .ok (.ladd, 1) := by decide +kernel
theorem dX3_harmAt_96 : decode cX3_harmAt 96 = .ok (.lstore 4, 2) := by decide +kernel
theorem dX3_harmAt_98 : decode cX3_harmAt 98 = .ok (.iinc 6 1, 3) := by decide +kernel
theorem dX3_harmAt_101 : decode cX3_harmAt 101 = .ok (.goto (-67), 3) := by decide +kernel
theorem dX3_harmAt_104 : decode cX3_harmAt 104 = .ok (.lload 4, 2) := by decide +kernel
theorem dX3_harmAt_106 : decode cX3_harmAt 106 = .ok (.lreturn, 1) := by decide +kernel
theorem dX4_init_0 : decode cX4_init 0 = .ok (.aload_n 0, 1) := by decide +kernel
theorem dX4_init_1 : decode cX4_init 1 = .ok (.invokespecial 3, 3) := by decide +kernel
theorem dX4_init_4 : decode cX4_init 4 = .ok (.aload_n 0, 1) := by decide +kernel
theorem dX4_init_5 : decode cX4_init 5 = .ok (.aload_n 1, 1) := by decide +kernel
theorem dX4_init_6 : decode cX4_init 6 = .ok (.putfield 9, 3) := by decide +kernel
theorem dX4_init_9 : decode cX4_init 9 = .ok (.aload_n 0, 1) := by decide +kernel
theorem dX4_init_10 : decode cX4_init 10 = .ok (.aload_n 2, 1) := by decide +kernel
theorem dX4_init_11 : decode cX4_init 11 = .ok (.putfield 15, 3) := by decide +kernel
theorem dX4_init_14 : decode cX4_init 14 = .ok (.aload_n 0, 1) := by decide +kernel
theorem dX4_init_15 : decode cX4_init 15 = .ok (.aload_n 3, 1) := by decide +kernel
theorem dX4_init_16 : decode cX4_init 16 = .ok (.putfield 19, 3) := by decide +kernel
theorem dX4_init_19 : decode cX4_init 19 = .ok (.return_, 1) := by decide +kernel
theorem dX4_bestWait_0 : decode cX4_bestWait 0 = .ok (.iconst 0, 1) := by decide +kernel
theorem dX4_bestWait_1 : decode cX4_bestWait 1 = .ok (.istore 4, 2) := by decide +kernel
theorem dX4_bestWait_3 : decode cX4_bestWait 3 = .ok (.aload_n 0, 1) := by decide +kernel
theorem dX4_bestWait_4 : decode cX4_bestWait 4 = .ok (.iload_n 1, 1) := by decide +kernel
theorem dX4_bestWait_5 : decode cX4_bestWait 5 = .ok (.iload_n 2, 1) := by decide +kernel
theorem dX4_bestWait_6 : decode cX4_bestWait 6 = .ok (.iload_n 3, 1) := by decide +kernel
theorem dX4_bestWait_7 : decode cX4_bestWait 7 = .ok (.iconst 0, 1) := by decide +kernel
theorem dX4_bestWait_8 : decode cX4_bestWait 8 = .ok (.invokevirtual 23, 3) := by decide +kernel
theorem dX4_bestWait_11 : decode cX4_bestWait 11 = .ok (.lstore 5, 2) := by decide +kernel
theorem dX4_bestWait_13 : decode cX4_bestWait 13 = .ok (.iconst 1, 1) := by decide +kernel
theorem dX4_bestWait_14 : decode cX4_bestWait 14 = .ok (.istore 7, 2) := by decide +kernel
theorem dX4_bestWait_16 : decode cX4_bestWait 16 = .ok (.iload 7, 2) := by decide +kernel
theorem dX4_bestWait_18 : decode cX4_bestWait 18 = .ok (.bipush 99, 2) := by decide +kernel
theorem dX4_bestWait_20 : decode cX4_bestWait 20 = .ok (.if_icmp .gt 49, 3) := by decide +kernel
theorem dX4_bestWait_23 : decode cX4_bestWait 23 = .ok (.iload 7, 2) := by decide +kernel
theorem dX4_bestWait_25 : decode cX4_bestWait 25 = .ok (.i2l, 1) := by decide +kernel
theorem dX4_bestWait_26 : decode cX4_bestWait 26 = .ok (.ldc2_w 27, 3) := by decide +kernel
theorem dX4_bestWait_29 : decode cX4_bestWait 29 = .ok (.lmul, 1) := by decide +kernel
theorem dX4_bestWait_30 : decode cX4_bestWait 30 = .ok (.lload 5, 2) := by decide +kernel
theorem dX4_bestWait_32 : decode cX4_bestWait 32 = .ok (.lcmp, 1) := by decide +kernel
theorem dX4_bestWait_33 : decode cX4_bestWait 33 = .ok (.ifCond .ge 36, 3) := by decide +kernel
theorem dX4_bestWait_36 : decode cX4_bestWait 36 = .ok (.aload_n 0, 1) := by decide +kernel
theorem dX4_bestWait_37 : decode cX4_bestWait 37 = .ok (.iload_n 1, 1) := by decide +kernel
theorem dX4_bestWait_38 : decode cX4_bestWait 38 = .ok (.iload_n 2, 1) := by decide +kernel
theorem dX4_bestWait_39 : decode cX4_bestWait 39 = .ok (.iload_n 3, 1) := by decide +kernel
theorem dX4_bestWait_40 : decode cX4_bestWait 40 = .ok (.iload 7, 2) := by decide +kernel
theorem dX4_bestWait_42 : decode cX4_bestWait 42 = .ok (.invokevirtual 23, 3) := by decide +kernel
theorem dX4_bestWait_45 : decode cX4_bestWait 45 = .ok (.lstore 8, 2) := by decide +kernel
theorem dX4_bestWait_47 : decode cX4_bestWait 47 = .ok (.lload 8, 2) := by decide +kernel
theorem dX4_bestWait_49 : decode cX4_bestWait 49 = .ok (.lload 5, 2) := by decide +kernel
theorem dX4_bestWait_51 : decode cX4_bestWait 51 = .ok (.lcmp, 1) := by decide +kernel
theorem dX4_bestWait_52 : decode cX4_bestWait 52 = .ok (.ifCond .ge 11, 3) := by decide +kernel
theorem dX4_bestWait_55 : decode cX4_bestWait 55 = .ok (.lload 8, 2) := by decide +kernel
theorem dX4_bestWait_57 : decode cX4_bestWait 57 = .ok (.lstore 5, 2) := by decide +kernel
theorem dX4_bestWait_59 : decode cX4_bestWait 59 = .ok (.iload 7, 2) := by decide +kernel
theorem dX4_bestWait_61 : decode cX4_bestWait 61 = .ok (.istore 4, 2) := by decide +kernel
theorem dX4_bestWait_63 : decode cX4_bestWait 63 = .ok (.iinc 7 1, 3) := by decide +kernel
theorem dX4_bestWait_66 : decode cX4_bestWait 66 = .ok (.goto (-50), 3) := by decide +kernel
theorem dX4_bestWait_69 : decode cX4_bestWait 69 = .ok (.iload 4, 2) := by decide +kernel
theorem dX4_bestWait_71 : decode cX4_bestWait 71 = .ok (.ireturn, 1) := by decide +kernel
theorem dX4_paid_0 : decode cX4_paid 0 = .ok (.lconst 0, 1) := by decide +kernel
theorem dX4_paid_1 : decode cX4_paid 1 = .ok (.lstore 5, 2) := by decide +kernel
theorem dX4_paid_3 : decode cX4_paid 3 = .ok (.iconst 0, 1) := by decide +kernel
theorem dX4_paid_4 : decode cX4_paid 4 = .ok (.istore 7, 2) := by decide +kernel
theorem dX4_paid_6 : decode cX4_paid 6 = .ok (.iload 7, 2) := by decide +kernel
theorem dX4_paid_8 : decode cX4_paid 8 = .ok (.aload_n 0, 1) := by decide +kernel
theorem dX4_paid_9 : decode cX4_paid 9 = .ok (.getfield 9, 3) := by decide +kernel
theorem dX4_paid_12 : decode cX4_paid 12 = .ok (.invokevirtual 29, 3) := by decide +kernel
theorem dX4_paid_15 : decode cX4_paid 15 = .ok (.if_icmp .ge 67, 3) := by decide +kernel
theorem dX4_paid_18 : decode cX4_paid 18 = .ok (.aload_n 0, 1) := by decide +kernel
theorem dX4_paid_19 : decode cX4_paid 19 = .ok (.getfield 19, 3) := by decide +kernel
theorem dX4_paid_22 : decode cX4_paid 22 = .ok (.iconst 0, 1) := by decide +kernel
theorem dX4_paid_23 : decode cX4_paid 23 = .ok (.iload 7, 2) := by decide +kernel
theorem dX4_paid_25 : decode cX4_paid 25 = .ok (.invokevirtual 35, 3) := by decide +kernel
theorem dX4_paid_28 : decode cX4_paid 28 = .ok (.ifCond .ne 48, 3) := by decide +kernel
theorem dX4_paid_31 : decode cX4_paid 31 = .ok (.iload_n 2, 1) := by decide +kernel
theorem dX4_paid_32 : decode cX4_paid 32 = .ok (.iload 4, 2) := by decide +kernel
theorem dX4_paid_34 : decode cX4_paid 34 = .ok (.iadd, 1) := by decide +kernel
theorem dX4_paid_35 : decode cX4_paid 35 = .ok (.iload 7, 2) := by decide +kernel
theorem dX4_paid_37 : decode cX4_paid 37 = .ok (.aload_n 0, 1) := by decide +kernel
theorem dX4_paid_38 : decode cX4_paid 38 = .ok (.getfield 15, 3) := by decide +kernel
theorem dX4_paid_41 : decode cX4_paid 41 = .ok (.getfield 41, 3) := by decide +kernel
theorem dX4_paid_44 : decode cX4_paid 44 = .ok (.imul, 1) := by decide +kernel
theorem dX4_paid_45 : decode cX4_paid 45 = .ok (.iadd, 1) := by decide +kernel
theorem dX4_paid_46 : decode cX4_paid 46 = .ok (.istore 8, 2) := by decide +kernel
theorem dX4_paid_48 : decode cX4_paid 48 = .ok (.lload 5, 2) := by decide +kernel
theorem dX4_paid_50 : decode cX4_paid 50 = .ok (.iload_n 1, 1) := by decide +kernel
theorem dX4_paid_51 : decode cX4_paid 51 = .ok (.i2l, 1) := by decide +kernel
theorem dX4_paid_52 : decode cX4_paid 52 = .ok (.aload_n 0, 1) := by decide +kernel
theorem dX4_paid_53 : decode cX4_paid 53 = .ok (.getfield 19, 3) := by decide +kernel
theorem dX4_paid_56 : decode cX4_paid 56 = .ok (.iconst 0, 1) := by decide +kernel
theorem dX4_paid_57 : decode cX4_paid 57 = .ok (.iload 8, 2) := by decide +kernel
theorem dX4_paid_59 : decode cX4_paid 59 = .ok (.iconst 1, 1) := by decide +kernel
theorem dX4_paid_60 : decode cX4_paid 60 = .ok (.aload_n 0, 1) := by decide +kernel
theorem dX4_paid_61 : decode cX4_paid 61 = .ok (.getfield 9, 3) := by decide +kernel
theorem dX4_paid_64 : decode cX4_paid 64 = .ok (.iload 7, 2) := by decide +kernel
theorem dX4_paid_66 : decode cX4_paid 66 = .ok (.invokevirtual 47, 3) := by decide +kernel
theorem dX4_paid_69 : decode cX4_paid 69 = .ok (.invokevirtual 51, 3) := by decide +kernel
theorem dX4_paid_72 : decode cX4_paid 72 = .ok (.lmul, 1) := by decide +kernel
theorem dX4_paid_73 : decode cX4_paid 73 = .ok (.ladd, 1) := by decide +kernel
theorem dX4_paid_74 : decode cX4_paid 74 = .ok (.lstore 5, 2) := by decide +kernel
theorem dX4_paid_76 : decode cX4_paid 76 = .ok (.iinc 7 1, 3) := by decide +kernel
theorem dX4_paid_79 : decode cX4_paid 79 = .ok (.goto (-73), 3) := by decide +kernel
theorem dX4_paid_82 : decode cX4_paid 82 = .ok (.iload 4, 2) := by decide +kernel
theorem dX4_paid_84 : decode cX4_paid 84 = .ok (.i2l, 1) := by decide +kernel
theorem dX4_paid_85 : decode cX4_paid 85 = .ok (.ldc2_w 27, 3) := by decide +kernel
theorem dX4_paid_88 : decode cX4_paid 88 = .ok (.lmul, 1) := by decide +kernel
theorem dX4_paid_89 : decode cX4_paid 89 = .ok (.iload_n 3, 1) := by decide +kernel
theorem dX4_paid_90 : decode cX4_paid 90 = .ok (.i2l, 1) := by decide +kernel
theorem dX4_paid_91 : decode cX4_paid 91 = .ok (.lload 5, 2) := by decide +kernel
theorem dX4_paid_93 : decode cX4_paid 93 = .ok (.lmul, 1) := by decide +kernel
theorem dX4_paid_94 : decode cX4_paid 94 = .ok (.ladd, 1) := by decide +kernel
theorem dX4_paid_95 : decode cX4_paid 95 = .ok (.lreturn, 1) := by decide +kernel
theorem dX5_init_0 : decode cX5_init 0 = .ok (.aload_n 0, 1) := by decide +kernel
theorem dX5_init_1 : decode cX5_init 1 = .ok (.invokespecial 3, 3) := by decide +kernel
theorem dX5_init_4 : decode cX5_init 4 = .ok (.aload_n 0, 1) := by decide +kernel
theorem dX5_init_5 : decode cX5_init 5 = .ok (.bipush 6, 2) := by decide +kernel
theorem dX5_init_7 : decode cX5_init 7 = .ok (.newarray .int, 2) := by decide +kernel
theorem dX5_init_9 : decode cX5_init 9 = .ok (.putfield 9, 3) := by decide +kernel
theorem dX5_init_12 : decode cX5_init 12 = .ok (.aload_n 0, 1) := by decide +kernel
theorem dX5_init_13 : decode cX5_init 13 = .ok (.bipush 6, 2) := by decide +kernel
theorem dX5_init_15 : decode cX5_init 15 = .ok (.newarray .int, 2) := by decide +kernel
theorem dX5_init_17 : decode cX5_init 17 = .ok (.putfield 15, 3) := by decide +kernel
theorem dX5_init_20 : decode cX5_init 20 = .ok (.aload_n 0, 1) := by decide +kernel
theorem dX5_init_21 : decode cX5_init 21 = .ok (.bipush 6, 2) := by decide +kernel
theorem dX5_init_23 : decode cX5_init 23 = .ok (.newarray .int, 2) := by decide +kernel
theorem dX5_init_25 : decode cX5_init 25 = .ok (.putfield 18, 3) := by decide +kernel
theorem dX5_init_28 : decode cX5_init 28 = .ok (.aload_n 0, 1) := by decide +kernel
theorem dX5_init_29 : decode cX5_init 29 = .ok (.iconst (-1), 1) := by decide +kernel
theorem dX5_init_30 : decode cX5_init 30 = .ok (.putfield 21, 3) := by decide +kernel
theorem dX5_init_33 : decode cX5_init 33 = .ok (.return_, 1) := by decide +kernel
theorem dX5_size_0 : decode cX5_size 0 = .ok (.aload_n 0, 1) := by decide +kernel
theorem dX5_size_1 : decode cX5_size 1 = .ok (.getfield 25, 3) := by decide +kernel
theorem dX5_size_4 : decode cX5_size 4 = .ok (.ireturn, 1) := by decide +kernel
theorem dX5_faultPlace_0 : decode cX5_faultPlace 0 = .ok (.aload_n 0, 1) := by decide +kernel
theorem dX5_faultPlace_1 : decode cX5_faultPlace 1 = .ok (.getfield 21, 3) := by decide +kernel
theorem dX5_faultPlace_4 : decode cX5_faultPlace 4 = .ok (.ireturn, 1) := by decide +kernel
theorem dX5_has_0 : decode cX5_has 0 = .ok (.iload_n 1, 1) := by decide +kernel
theorem dX5_has_1 : decode cX5_has 1 = .ok (.ifCond .lt 15, 3) := by decide +kernel
theorem dX5_has_4 : decode cX5_has 4 = .ok (.iload_n 1, 1) := by decide +kernel
theorem dX5_has_5 : decode cX5_has 5 = .ok (.aload_n 0, 1) := by decide +kernel
theorem dX5_has_6 : decode cX5_has 6 = .ok (.getfield 25, 3) := by decide +kernel
theorem dX5_has_9 : decode cX5_has 9 = .ok (.if_icmp .ge 7, 3) := by decide +kernel
theorem dX5_has_12 : decode cX5_has 12 = .ok (.iconst 1, 1) := by decide +kernel
theorem dX5_has_13 : decode cX5_has 13 = .ok (.goto 4, 3) := by decide +kernel
theorem dX5_has_16 : decode cX5_has 16 = .ok (.iconst 0, 1) := by decide +kernel
theorem dX5_has_17 : decode cX5_has 17 = .ok (.ireturn, 1) := by decide +kernel
theorem dX5_weightOf_0 : decode cX5_weightOf 0 = .ok (.iload_n 1, 1) := by decide +kernel
theorem dX5_weightOf_1 : decode cX5_weightOf 1 = .ok (.ifCond .lt 29, 3) := by decide +kernel
theorem dX5_weightOf_4 : decode cX5_weightOf 4 = .ok (.iload_n 1, 1) := by decide +kernel
theorem dX5_weightOf_5 : decode cX5_weightOf 5 = .ok (.aload_n 0, 1) := by decide +kernel
theorem dX5_weightOf_6 : decode cX5_weightOf 6 = .ok (.getfield 25, 3) := by decide +kernel
theorem dX5_weightOf_9 : decode cX5_weightOf 9 = .ok (.if_icmp .ge 21, 3) := by decide +kernel
theorem dX5_weightOf_12 : decode cX5_weightOf 12 = .ok (.iload_n 1, 1) := by decide +kernel
theorem dX5_weightOf_13 : decode cX5_weightOf 13 = .ok (.aload_n 0, 1) := by decide +kernel
theorem dX5_weightOf_14 : decode cX5_weightOf 14 = .ok (.getfield 9, 3) := by decide +kernel
theorem dX5_weightOf_17 : decode cX5_weightOf 17 = .ok (.arraylength, 1) := by decide +kernel
theorem dX5_weightOf_18 : decode cX5_weightOf 18 = .ok (.if_icmp .ge 12, 3) := by decide +kernel
theorem dX5_weightOf_21 : decode cX5_weightOf 21 = .ok (.aload_n 0, 1) := by decide +kernel
theorem dX5_weightOf_22 : decode cX5_weightOf 22 = .ok (.getfield 9, 3) := by decide +kernel
theorem dX5_weightOf_25 : decode cX5_weightOf 25 = .ok (.iload_n 1, 1) := by decide +kernel
theorem dX5_weightOf_26 : decode cX5_weightOf 26 = .ok (.iaload, 1) := by decide +kernel
theorem dX5_weightOf_27 : decode cX5_weightOf 27 = .ok (.goto 4, 3) := by decide +kernel
theorem dX5_weightOf_30 : decode cX5_weightOf 30 = .ok (.iconst 0, 1) := by decide +kernel
theorem dX5_weightOf_31 : decode cX5_weightOf 31 = .ok (.ireturn, 1) := by decide +kernel
theorem dX5_skillOf_0 : decode cX5_skillOf 0 = .ok (.iload_n 1, 1) := by decide +kernel
theorem dX5_skillOf_1 : decode cX5_skillOf 1 = .ok (.ifCond .lt 29, 3) := by decide +kernel
theorem dX5_skillOf_4 : decode cX5_skillOf 4 = .ok (.iload_n 1, 1) := by decide +kernel
theorem dX5_skillOf_5 : decode cX5_skillOf 5 = .ok (.aload_n 0, 1) := by decide +kernel
theorem dX5_skillOf_6 : decode cX5_skillOf 6 = .ok (.getfield 25, 3) := by decide +kernel
theorem dX5_skillOf_9 : decode cX5_skillOf 9 = .ok (.if_icmp .ge 21, 3) := by decide +kernel
theorem dX5_skillOf_12 : decode cX5_skillOf 12 = .ok (.iload_n 1, 1) := by decide +kernel
theorem dX5_skillOf_13 : decode cX5_skillOf 13 = .ok (.aload_n 0, 1) := by decide +kernel
theorem dX5_skillOf_14 : decode cX5_skillOf 14 = .ok (.getfield 15, 3) := by decide +kernel
theorem dX5_skillOf_17 : decode cX5_skillOf 17 = .ok (.arraylength, 1) := by decide +kernel
theorem dX5_skillOf_18 : decode cX5_skillOf 18 = .ok (.if_icmp .ge 12, 3) := by decide +kernel
theorem dX5_skillOf_21 : decode cX5_skillOf 21 = .ok (.aload_n 0, 1) := by decide +kernel
theorem dX5_skillOf_22 : decode cX5_skillOf 22 = .ok (.getfield 15, 3) := by decide +kernel
theorem dX5_skillOf_25 : decode cX5_skillOf 25 = .ok (.iload_n 1, 1) := by decide +kernel
theorem dX5_skillOf_26 : decode cX5_skillOf 26 = .ok (.iaload, 1) := by decide +kernel
theorem dX5_skillOf_27 : decode cX5_skillOf 27 = .ok (.goto 4, 3) := by decide +kernel
theorem dX5_skillOf_30 : decode cX5_skillOf 30 = .ok (.iconst 0, 1) := by decide +kernel
theorem dX5_skillOf_31 : decode cX5_skillOf 31 = .ok (.ireturn, 1) := by decide +kernel
theorem dX5_helmetOf_0 : decode cX5_helmetOf 0 = .ok (.iload_n 1, 1) := by decide +kernel
theorem dX5_helmetOf_1 : decode cX5_helmetOf 1 = .ok (.ifCond .lt 29, 3) := by decide +kernel
theorem dX5_helmetOf_4 : decode cX5_helmetOf 4 = .ok (.iload_n 1, 1) := by decide +kernel
theorem dX5_helmetOf_5 : decode cX5_helmetOf 5 = .ok (.aload_n 0, 1) := by decide +kernel
theorem dX5_helmetOf_6 : decode cX5_helmetOf 6 = .ok (.getfield 25, 3) := by decide +kernel
theorem dX5_helmetOf_9 : decode cX5_helmetOf 9 = .ok (.if_icmp .ge 21, 3) := by decide +kernel
theorem dX5_helmetOf_12 : decode cX5_helmetOf 12 = .ok (.iload_n 1, 1) := by decide +kernel
theorem dX5_helmetOf_13 : decode cX5_helmetOf 13 = .ok (.aload_n 0, 1) := by decide +kernel
theorem dX5_helmetOf_14 : decode cX5_helmetOf 14 = .ok (.getfield 18, 3) := by decide +kernel
theorem dX5_helmetOf_17 : decode cX5_helmetOf 17 = .ok (.arraylength, 1) := by decide +kernel
theorem dX5_helmetOf_18 : decode cX5_helmetOf 18 = .ok (.if_icmp .ge 12, 3) := by decide +kernel
theorem dX5_helmetOf_21 : decode cX5_helmetOf 21 = .ok (.aload_n 0, 1) := by decide +kernel
theorem dX5_helmetOf_22 : decode cX5_helmetOf 22 = .ok (.getfield 18, 3) := by decide +kernel
theorem dX5_helmetOf_25 : decode cX5_helmetOf 25 = .ok (.iload_n 1, 1) := by decide +kernel
theorem dX5_helmetOf_26 : decode cX5_helmetOf 26 = .ok (.iaload, 1) := by decide +kernel
theorem dX5_helmetOf_27 : decode cX5_helmetOf 27 = .ok (.goto 4, 3) := by decide +kernel
theorem dX5_helmetOf_30 : decode cX5_helmetOf 30 = .ok (.iconst 0, 1) := by decide +kernel
theorem dX5_helmetOf_31 : decode cX5_helmetOf 31 = .ok (.ireturn, 1) := by decide +kernel
theorem dX5_helmetsInAll_0 : decode cX5_helmetsInAll 0 = .ok (.iconst 0, 1) := by decide +kernel
theorem dX5_helmetsInAll_1 : decode cX5_helmetsInAll 1 = .ok (.istore_n 1, 1) := by decide +kernel
theorem dX5_helmetsInAll_2 : decode cX5_helmetsInAll 2 = .ok (.iconst 0, 1) := by decide +kernel
theorem dX5_helmetsInAll_3 : decode cX5_helmetsInAll 3 = .ok (.istore_n 2, 1) := by decide +kernel
theorem dX5_helmetsInAll_4 : decode cX5_helmetsInAll 4 = .ok (.iload_n 2, 1) := by decide +kernel
theorem dX5_helmetsInAll_5 : decode cX5_helmetsInAll 5 = .ok (.aload_n 0, 1) := by decide +kernel
theorem dX5_helmetsInAll_6 : decode cX5_helmetsInAll 6 = .ok (.getfield 25, 3) := by decide +kernel
theorem dX5_helmetsInAll_9 : decode cX5_helmetsInAll 9 = .ok (.if_icmp .ge 17, 3) := by decide +kernel
theorem dX5_helmetsInAll_12 : decode cX5_helmetsInAll 12 = .ok (.iload_n 1, 1) := by decide +kernel
theorem dX5_helmetsInAll_13 : decode cX5_helmetsInAll 13 = .ok (.aload_n 0, 1) := by decide +kernel
theorem dX5_helmetsInAll_14 : decode cX5_helmetsInAll 14 = .ok (.iload_n 2, 1) := by decide +kernel
theorem dX5_helmetsInAll_15 : decode cX5_helmetsInAll 15 = .ok (.invokevirtual 28, 3) := by decide +kernel
theorem dX5_helmetsInAll_18 : decode cX5_helmetsInAll 18 = .ok (.iadd, 1) := by decide +kernel
theorem dX5_helmetsInAll_19 : decode cX5_helmetsInAll 19 = .ok (.istore_n 1, 1) := by decide +kernel
theorem dX5_helmetsInAll_20 : decode cX5_helmetsInAll 20 = .ok (.iinc 2 1, 3) := by decide +kernel
theorem dX5_helmetsInAll_23 : decode cX5_helmetsInAll 23 = .ok (.goto (-19), 3) := by decide +kernel
theorem dX5_helmetsInAll_26 : decode cX5_helmetsInAll 26 = .ok (.iload_n 1, 1) := by decide +kernel
theorem dX5_helmetsInAll_27 : decode cX5_helmetsInAll 27 = .ok (.ireturn, 1) := by decide +kernel
theorem dX5_oddsMore_0 : decode cX5_oddsMore 0 = .ok (.aload_n 0, 1) := by decide +kernel
theorem dX5_oddsMore_1 : decode cX5_oddsMore 1 = .ok (.iload_n 1, 1) := by decide +kernel
theorem dX5_oddsMore_2 : decode cX5_oddsMore 2 = .ok (.invokevirtual 32, 3) := by decide +kernel
theorem dX5_oddsMore_5 : decode cX5_oddsMore 5 = .ok (.iconst 3, 1) := by decide +kernel
theorem dX5_oddsMore_6 : decode cX5_oddsMore 6 = .ok (.idiv, 1) := by decide +kernel
theorem dX5_oddsMore_7 : decode cX5_oddsMore 7 = .ok (.aload_n 0, 1) := by decide +kernel
theorem dX5_oddsMore_8 : decode cX5_oddsMore 8 = .ok (.iload_n 1, 1) := by decide +kernel
theorem dX5_oddsMore_9 : decode cX5_oddsMore 9 = .ok (.invokevirtual 35, 3) := by decide +kernel
theorem dX5_oddsMore_12 : decode cX5_oddsMore 12 = .ok (.iconst 3, 1) := by decide +kernel
theorem dX5_oddsMore_13 : decode cX5_oddsMore 13 = .ok (.idiv, 1) := by decide +kernel
theorem dX5_oddsMore_14 : decode cX5_oddsMore 14 = .ok (.isub, 1) := by decide +kernel
theorem dX5_oddsMore_15 : decode cX5_oddsMore 15 = .ok (.ireturn, 1) := by decide +kernel
theorem dX5_parse_0 : decode cX5_parse 0 = .ok (.aload_n 0, 1) := by decide +kernel
theorem dX5_parse_1 : decode cX5_parse 1 = .ok (.iconst 0, 1) := by decide +kernel
theorem dX5_parse_2 : decode cX5_parse 2 = .ok (.putfield 25, 3) := by decide +kernel
theorem dX5_parse_5 : decode cX5_parse 5 = .ok (.aload_n 0, 1) := by decide +kernel
theorem dX5_parse_6 : decode cX5_parse 6 = .ok (.aload_n 1, 1) := by decide +kernel
theorem dX5_parse_7 : decode cX5_parse 7 = .ok (.invokestatic 38, 3) := by decide +kernel
theorem dX5_parse_10 : decode cX5_parse 10 = .ok (.putfield 21, 3) := by decide +kernel
theorem dX5_parse_13 : decode cX5_parse 13 = .ok (.aload_n 0, 1) := by decide +kernel
theorem dX5_parse_14 : decode cX5_parse 14 = .ok (.getfield 21, 3) := by decide +kernel
theorem dX5_parse_17 : decode cX5_parse 17 = .ok (.iconst (-1), 1) := by decide +kernel
theorem dX5_parse_18 : decode cX5_parse 18 = .ok (.if_icmp .eq 4, 3) := by decide +kernel
theorem dX5_parse_21 : decode cX5_parse 21 = .ok (.return_, 1) := by decide +kernel
theorem dX5_parse_22 : decode cX5_parse 22 = .ok (.iconst 0, 1) := by decide +kernel
theorem dX5_parse_23 : decode cX5_parse 23 = .ok (.istore_n 2, 1) := by decide +kernel
theorem dX5_parse_24 : decode cX5_parse 24 = .ok (.iload_n 2, 1) := by decide +kernel
theorem dX5_parse_25 : decode cX5_parse 25 = .ok (.aload_n 1, 1) := by decide +kernel
theorem dX5_parse_26 : decode cX5_parse 26 = .ok (.invokevirtual 42, 3) := by decide +kernel
theorem dX5_parse_29 : decode cX5_parse 29 = .ok (.if_icmp .ge 48, 3) := by decide +kernel
theorem dX5_parse_32 : decode cX5_parse 32 = .ok (.iload_n 2, 1) := by decide +kernel
theorem dX5_parse_33 : decode cX5_parse 33 = .ok (.bipush 23, 2) := by decide +kernel
theorem dX5_parse_35 : decode cX5_parse 35 = .ok (.if_icmp .ge 42, 3) := by decide +kernel
theorem dX5_parse_38 : decode cX5_parse 38 = .ok (.aload_n 0, 1) := by decide +kernel
theorem dX5_parse_39 : decode cX5_parse 39 = .ok (.aload_n 1, 1) := by decide +kernel
theorem dX5_parse_40 : decode cX5_parse 40 = .ok (.iload_n 2, 1) := by decide +kernel
theorem dX5_parse_41 : decode cX5_parse 41 = .ok (.invokevirtual 48, 3) := by decide +kernel
theorem dX5_parse_44 : decode cX5_parse 44 = .ok (.aload_n 1, 1) := by decide +kernel
theorem dX5_parse_45 : decode cX5_parse 45 = .ok (.iload_n 2, 1) := by decide +kernel
theorem dX5_parse_46 : decode cX5_parse 46 = .ok (.iconst 1, 1) := by decide +kernel
theorem dX5_parse_47 : decode cX5_parse 47 = .ok (.iadd, 1) := by decide +kernel
theorem dX5_parse_48 : decode cX5_parse 48 = .ok (.invokevirtual 48, 3) := by decide +kernel
theorem dX5_parse_51 : decode cX5_parse 51 = .ok (.aload_n 1, 1) := by decide +kernel
theorem dX5_parse_52 : decode cX5_parse 52 = .ok (.iload_n 2, 1) := by decide +kernel
theorem dX5_parse_53 : decode cX5_parse 53 = .ok (.iconst 2, 1) := by decide +kernel
theorem dX5_parse_54 : decode cX5_parse 54 = .ok (.iadd, 1) := by decide +kernel
theorem dX5_parse_55 : decode cX5_parse 55 = .ok (.invokevirtual 51, 3) := by decide +kernel
theorem dX5_parse_58 : decode cX5_parse 58 = .ok (.bipush 104, 2) := by decide +kernel
theorem dX5_parse_60 : decode cX5_parse 60 = .ok (.if_icmp .ne 7, 3) := by decide +kernel
theorem dX5_parse_63 : decode cX5_parse 63 = .ok (.iconst 1, 1) := by decide +kernel
theorem dX5_parse_64 : decode cX5_parse 64 = .ok (.goto 4, 3) := by decide +kernel
theorem dX5_parse_67 : decode cX5_parse 67 = .ok (.iconst 0, 1) := by decide +kernel
theorem dX5_parse_68 : decode cX5_parse 68 = .ok (.invokevirtual 54, 3) := by decide +kernel
theorem dX5_parse_71 : decode cX5_parse 71 = .ok (.iinc 2 4, 3) := by decide +kernel
theorem dX5_parse_74 : decode cX5_parse 74 = .ok (.goto (-50), 3) := by decide +kernel
theorem dX5_parse_77 : decode cX5_parse 77 = .ok (.return_, 1) := by decide +kernel
theorem dX5_faultOf_0 : decode cX5_faultOf 0 = .ok (.iconst 0, 1) := by decide +kernel
theorem dX5_faultOf_1 : decode cX5_faultOf 1 = .ok (.istore_n 1, 1) := by decide +kernel
theorem dX5_faultOf_2 : decode cX5_faultOf 2 = .ok (.iload_n 1, 1) := by decide +kernel
theorem dX5_faultOf_3 : decode cX5_faultOf 3 = .ok (.aload_n 0, 1) := by decide +kernel
theorem dX5_faultOf_4 : decode cX5_faultOf 4 = .ok (.invokevirtual 42, 3) := by decide +kernel
theorem dX5_faultOf_7 : decode cX5_faultOf 7 = .ok (.if_icmp .ge 25, 3) := by decide +kernel
theorem dX5_faultOf_10 : decode cX5_faultOf 10 = .ok (.iload_n 1, 1) := by decide +kernel
theorem dX5_faultOf_11 : decode cX5_faultOf 11 = .ok (.bipush 23, 2) := by decide +kernel
theorem dX5_faultOf_13 : decode cX5_faultOf 13 = .ok (.if_icmp .ge 19, 3) := by decide +kernel
theorem dX5_faultOf_16 : decode cX5_faultOf 16 = .ok (.aload_n 0, 1) := by decide +kernel
theorem dX5_faultOf_17 : decode cX5_faultOf 17 = .ok (.iload_n 1, 1) := by decide +kernel
theorem dX5_faultOf_18 : decode cX5_faultOf 18 = .ok (.invokestatic 58, 3) := by decide +kernel
theorem dX5_faultOf_21 : decode cX5_faultOf 21 = .ok (.ifCond .ne 5, 3) := by decide +kernel
theorem dX5_faultOf_24 : decode cX5_faultOf 24 = .ok (.iload_n 1, 1) := by decide +kernel
theorem dX5_faultOf_25 : decode cX5_faultOf 25 = .ok (.ireturn, 1) := by decide +kernel
theorem dX5_faultOf_26 : decode cX5_faultOf 26 = .ok (.iinc 1 1, 3) := by decide +kernel
theorem dX5_faultOf_29 : decode cX5_faultOf 29 = .ok (.goto (-27), 3) := by decide +kernel
theorem dX5_faultOf_32 : decode cX5_faultOf 32 = .ok (.aload_n 0, 1) := by decide +kernel
theorem dX5_faultOf_33 : decode cX5_faultOf 33 = .ok (.invokevirtual 42, 3) := by decide +kernel
theorem dX5_faultOf_36 : decode cX5_faultOf 36 = .ok (.ifCond .eq 13, 3) := by decide +kernel
theorem dX5_faultOf_39 : decode cX5_faultOf 39 = .ok (.aload_n 0, 1) := by decide +kernel
theorem dX5_faultOf_40 : decode cX5_faultOf 40 = .ok (.invokevirtual 42, 3) := by decide +kernel
theorem dX5_faultOf_43 : decode cX5_faultOf 43 = .ok (.iconst 4, 1) := by decide +kernel
theorem dX5_faultOf_44 : decode cX5_faultOf 44 = .ok (.irem, 1) := by decide +kernel
theorem dX5_faultOf_45 : decode cX5_faultOf 45 = .ok (.iconst 3, 1) := by decide +kernel
theorem dX5_faultOf_46 : decode cX5_faultOf 46 = .ok (.if_icmp .ne 7, 3) := by decide +kernel
theorem dX5_faultOf_49 : decode cX5_faultOf 49 = .ok (.iconst 1, 1) := by decide +kernel
theorem dX5_faultOf_50 : decode cX5_faultOf 50 = .ok (.goto 4, 3) := by decide +kernel
theorem dX5_faultOf_53 : decode cX5_faultOf 53 = .ok (.iconst 0, 1) := by decide +kernel
theorem dX5_faultOf_54 : decode cX5_faultOf 54 = .ok (.istore_n 1, 1) := by decide +kernel
theorem dX5_faultOf_55 : decode cX5_faultOf 55 = .ok (.iload_n 1, 1) := by decide +kernel
theorem dX5_faultOf_56 : decode cX5_faultOf 56 = .ok (.ifCond .eq 7, 3) := by decide +kernel
theorem dX5_faultOf_59 : decode cX5_faultOf 59 = .ok (.iconst (-1), 1) := by decide +kernel
theorem dX5_faultOf_60 : decode cX5_faultOf 60 = .ok (.goto 7, 3) := by decide +kernel
theorem dX5_faultOf_63 : decode cX5_faultOf 63 = .ok (.aload_n 0, 1) := by decide +kernel
theorem dX5_faultOf_64 : decode cX5_faultOf 64 = .ok (.invokevirtual 42, 3) := by decide +kernel
theorem dX5_faultOf_67 : decode cX5_faultOf 67 = .ok (.ireturn, 1) := by decide +kernel
theorem dX5_fitsAt_0 : decode cX5_fitsAt 0 = .ok (.iload_n 1, 1) := by decide +kernel
theorem dX5_fitsAt_1 : decode cX5_fitsAt 1 = .ok (.iconst 4, 1) := by decide +kernel
theorem dX5_fitsAt_2 : decode cX5_fitsAt 2 = .ok (.irem, 1) := by decide +kernel
theorem dX5_fitsAt_3 : decode cX5_fitsAt 3 = .ok (.tableswitch 80 0 2 #[25, 40, 54], 25) := by decide +kernel
theorem dX5_fitsAt_28 : decode cX5_fitsAt 28 = .ok (.aload_n 0, 1) := by decide +kernel
theorem dX5_fitsAt_29 : decode cX5_fitsAt 29 = .ok (.iload_n 1, 1) := by decide +kernel
theorem dX5_fitsAt_30 : decode cX5_fitsAt 30 = .ok (.invokevirtual 48, 3) := by decide +kernel
theorem dX5_fitsAt_33 : decode cX5_fitsAt 33 = .ok (.iconst 1, 1) := by decide +kernel
theorem dX5_fitsAt_34 : decode cX5_fitsAt 34 = .ok (.if_icmp .lt 7, 3) := by decide +kernel
theorem dX5_fitsAt_37 : decode cX5_fitsAt 37 = .ok (.iconst 1, 1) := by decide +kernel
theorem dX5_fitsAt_38 : decode cX5_fitsAt 38 = .ok (.goto 4, 3) := by decide +kernel
theorem dX5_fitsAt_41 : decode cX5_fitsAt 41 = .ok (.iconst 0, 1) := by decide +kernel
theorem dX5_fitsAt_42 : decode cX5_fitsAt 42 = .ok (.ireturn, 1) := by decide +kernel
theorem dX5_fitsAt_43 : decode cX5_fitsAt 43 = .ok (.aload_n 0, 1) := by decide +kernel
theorem dX5_fitsAt_44 : decode cX5_fitsAt 44 = .ok (.iload_n 1, 1) := by decide +kernel
theorem dX5_fitsAt_45 : decode cX5_fitsAt 45 = .ok (.invokevirtual 48, 3) := by decide +kernel
theorem dX5_fitsAt_48 : decode cX5_fitsAt 48 = .ok (.ifCond .lt 7, 3) := by decide +kernel
theorem dX5_fitsAt_51 : decode cX5_fitsAt 51 = .ok (.iconst 1, 1) := by decide +kernel
theorem dX5_fitsAt_52 : decode cX5_fitsAt 52 = .ok (.goto 4, 3) := by decide +kernel
theorem dX5_fitsAt_55 : decode cX5_fitsAt 55 = .ok (.iconst 0, 1) := by decide +kernel
theorem dX5_fitsAt_56 : decode cX5_fitsAt 56 = .ok (.ireturn, 1) := by decide +kernel
theorem dX5_fitsAt_57 : decode cX5_fitsAt 57 = .ok (.aload_n 0, 1) := by decide +kernel
theorem dX5_fitsAt_58 : decode cX5_fitsAt 58 = .ok (.iload_n 1, 1) := by decide +kernel
theorem dX5_fitsAt_59 : decode cX5_fitsAt 59 = .ok (.invokevirtual 51, 3) := by decide +kernel
theorem dX5_fitsAt_62 : decode cX5_fitsAt 62 = .ok (.bipush 104, 2) := by decide +kernel
theorem dX5_fitsAt_64 : decode cX5_fitsAt 64 = .ok (.if_icmp .eq 13, 3) := by decide +kernel
theorem dX5_fitsAt_67 : decode cX5_fitsAt 67 = .ok (.aload_n 0, 1) := by decide +kernel
theorem dX5_fitsAt_68 : decode cX5_fitsAt 68 = .ok (.iload_n 1, 1) := by decide +kernel
theorem dX5_fitsAt_69 : decode cX5_fitsAt 69 = .ok (.invokevirtual 51, 3) := by decide +kernel
theorem dX5_fitsAt_72 : decode cX5_fitsAt 72 = .ok (.bipush 46, 2) := by decide +kernel
theorem dX5_fitsAt_74 : decode cX5_fitsAt 74 = .ok (.if_icmp .ne 7, 3) := by decide +kernel
theorem dX5_fitsAt_77 : decode cX5_fitsAt 77 = .ok (.iconst 1, 1) := by decide +kernel
theorem dX5_fitsAt_78 : decode cX5_fitsAt 78 = .ok (.goto 4, 3) := by decide +kernel
theorem dX5_fitsAt_81 : decode cX5_fitsAt 81 = .ok (.iconst 0, 1) := by decide +kernel
theorem dX5_fitsAt_82 : decode cX5_fitsAt 82 = .ok (.ireturn, 1) := by decide +kernel
theorem dX5_fitsAt_83 : decode cX5_fitsAt 83 = .ok (.aload_n 0, 1) := by decide +kernel
theorem dX5_fitsAt_84 : decode cX5_fitsAt 84 = .ok (.iload_n 1, 1) := by decide +kernel
theorem dX5_fitsAt_85 : decode cX5_fitsAt 85 = .ok (.invokevirtual 51, 3) := by decide +kernel
theorem dX5_fitsAt_88 : decode cX5_fitsAt 88 = .ok (.bipush 59, 2) := by decide +kernel
theorem dX5_fitsAt_90 : decode cX5_fitsAt 90 = .ok (.if_icmp .ne 7, 3) := by decide +kernel
theorem dX5_fitsAt_93 : decode cX5_fitsAt 93 = .ok (.iconst 1, 1) := by decide +kernel
theorem dX5_fitsAt_94 : decode cX5_fitsAt 94 = .ok (.goto 4, 3) := by decide +kernel
theorem dX5_fitsAt_97 : decode cX5_fitsAt 97 = .ok (.iconst 0, 1) := by decide +kernel
theorem dX5_fitsAt_98 : decode cX5_fitsAt 98 = .ok (.ireturn, 1) := by decide +kernel
theorem dX5_add_0 : decode cX5_add 0 = .ok (.aload_n 0, 1) := by decide +kernel
theorem dX5_add_1 : decode cX5_add 1 = .ok (.getfield 25, 3) := by decide +kernel
theorem dX5_add_4 : decode cX5_add 4 = .ok (.ifCond .lt 79, 3) := by decide +kernel
theorem dX5_add_7 : decode cX5_add 7 = .ok (.aload_n 0, 1) := by decide +kernel
theorem dX5_add_8 : decode cX5_add 8 = .ok (.getfield 25, 3) := by decide +kernel
theorem dX5_add_11 : decode cX5_add 11 = .ok (.aload_n 0, 1) := by decide +kernel
theorem dX5_add_12 : decode cX5_add 12 = .ok (.getfield 9, 3) := by decide +kernel
theorem dX5_add_15 : decode cX5_add 15 = .ok (.arraylength, 1) := by decide +kernel
theorem dX5_add_16 : decode cX5_add 16 = .ok (.if_icmp .ge 67, 3) := by decide +kernel
theorem dX5_add_19 : decode cX5_add 19 = .ok (.aload_n 0, 1) := by decide +kernel
theorem dX5_add_20 : decode cX5_add 20 = .ok (.getfield 25, 3) := by decide +kernel
theorem dX5_add_23 : decode cX5_add 23 = .ok (.aload_n 0, 1) := by decide +kernel
theorem dX5_add_24 : decode cX5_add 24 = .ok (.getfield 15, 3) := by decide +kernel
theorem dX5_add_27 : decode cX5_add 27 = .ok (.arraylength, 1) := by decide +kernel
theorem dX5_add_28 : decode cX5_add 28 = .ok (.if_icmp .ge 55, 3) := by decide +kernel
theorem dX5_add_31 : decode cX5_add 31 = .ok (.aload_n 0, 1) := by decide +kernel
theorem dX5_add_32 : decode cX5_add 32 = .ok (.getfield 25, 3) := by decide +kernel
theorem dX5_add_35 : decode cX5_add 35 = .ok (.aload_n 0, 1) := by decide +kernel
theorem dX5_add_36 : decode cX5_add 36 = .ok (.getfield 18, 3) := by decide +kernel
theorem dX5_add_39 : decode cX5_add 39 = .ok (.arraylength, 1) := by decide +kernel
theorem dX5_add_40 : decode cX5_add 40 = .ok (.if_icmp .ge 43, 3) := by decide +kernel
theorem dX5_add_43 : decode cX5_add 43 = .ok (.aload_n 0, 1) := by decide +kernel
theorem dX5_add_44 : decode cX5_add 44 = .ok (.getfield 9, 3) := by decide +kernel
theorem dX5_add_47 : decode cX5_add 47 = .ok (.aload_n 0, 1) := by decide +kernel
theorem dX5_add_48 : decode cX5_add 48 = .ok (.getfield 25, 3) := by decide +kernel
theorem dX5_add_51 : decode cX5_add 51 = .ok (.iload_n 1, 1) := by decide +kernel
theorem dX5_add_52 : decode cX5_add 52 = .ok (.iastore, 1) := by decide +kernel
theorem dX5_add_53 : decode cX5_add 53 = .ok (.aload_n 0, 1) := by decide +kernel
theorem dX5_add_54 : decode cX5_add 54 = .ok (.getfield 15, 3) := by decide +kernel
theorem dX5_add_57 : decode cX5_add 57 = .ok (.aload_n 0, 1) := by decide +kernel
theorem dX5_add_58 : decode cX5_add 58 = .ok (.getfield 25, 3) := by decide +kernel
theorem dX5_add_61 : decode cX5_add 61 = .ok (.iload_n 2, 1) := by decide +kernel
theorem dX5_add_62 : decode cX5_add 62 = .ok (.iastore, 1) := by decide +kernel
theorem dX5_add_63 : decode cX5_add 63 = .ok (.aload_n 0, 1) := by decide +kernel
theorem dX5_add_64 : decode cX5_add 64 = .ok (.getfield 18, 3) := by decide +kernel
theorem dX5_add_67 : decode cX5_add 67 = .ok (.aload_n 0, 1) := by decide +kernel
theorem dX5_add_68 : decode cX5_add 68 = .ok (.getfield 25, 3) := by decide +kernel
theorem dX5_add_71 : decode cX5_add 71 = .ok (.iload_n 3, 1) := by decide +kernel
theorem dX5_add_72 : decode cX5_add 72 = .ok (.iastore, 1) := by decide +kernel
theorem dX5_add_73 : decode cX5_add 73 = .ok (.aload_n 0, 1) := by decide +kernel
theorem dX5_add_74 : decode cX5_add 74 = .ok (.dup, 1) := by decide +kernel
theorem dX5_add_75 : decode cX5_add 75 = .ok (.getfield 25, 3) := by decide +kernel
theorem dX5_add_78 : decode cX5_add 78 = .ok (.iconst 1, 1) := by decide +kernel
theorem dX5_add_79 : decode cX5_add 79 = .ok (.iadd, 1) := by decide +kernel
theorem dX5_add_80 : decode cX5_add 80 = .ok (.putfield 25, 3) := by decide +kernel
theorem dX5_add_83 : decode cX5_add 83 = .ok (.return_, 1) := by decide +kernel
theorem dX6_init_0 : decode cX6_init 0 = .ok (.aload_n 0, 1) := by decide +kernel
theorem dX6_init_1 : decode cX6_init 1 = .ok (.invokespecial 3, 3) := by decide +kernel
theorem dX6_init_4 : decode cX6_init 4 = .ok (.aload_n 0, 1) := by decide +kernel
theorem dX6_init_5 : decode cX6_init 5 = .ok (.iconst 1, 1) := by decide +kernel
theorem dX6_init_6 : decode cX6_init 6 = .ok (.putfield 9, 3) := by decide +kernel
theorem dX6_init_9 : decode cX6_init 9 = .ok (.aload_n 0, 1) := by decide +kernel
theorem dX6_init_10 : decode cX6_init 10 = .ok (.iconst 0, 1) := by decide +kernel
theorem dX6_init_11 : decode cX6_init 11 = .ok (.putfield 15, 3) := by decide +kernel
theorem dX6_init_14 : decode cX6_init 14 = .ok (.aload_n 0, 1) := by decide +kernel
theorem dX6_init_15 : decode cX6_init 15 = .ok (.bipush 16, 2) := by decide +kernel
theorem dX6_init_17 : decode cX6_init 17 = .ok (.putfield 18, 3) := by decide +kernel
theorem dX6_init_20 : decode cX6_init 20 = .ok (.aload_n 0, 1) := by decide +kernel
theorem dX6_init_21 : decode cX6_init 21 = .ok (.iconst 0, 1) := by decide +kernel
theorem dX6_init_22 : decode cX6_init 22 = .ok (.putfield 21, 3) := by decide +kernel
theorem dX6_init_25 : decode cX6_init 25 = .ok (.aload_n 0, 1) := by decide +kernel
theorem dX6_init_26 : decode cX6_init 26 = .ok (.sipush 1999, 3) := by decide +kernel
theorem dX6_init_29 : decode cX6_init 29 = .ok (.putfield 24, 3) := by decide +kernel
theorem dX6_init_32 : decode cX6_init 32 = .ok (.aload_n 0, 1) := by decide +kernel
theorem dX6_init_33 : decode cX6_init 33 = .ok (.iconst 1, 1) := by decide +kernel
theorem dX6_init_34 : decode cX6_init 34 = .ok (.putfield 27, 3) := by decide +kernel
theorem dX6_init_37 : decode cX6_init 37 = .ok (.return_, 1) := by decide +kernel
theorem dX6_takes_0 : decode cX6_takes 0 = .ok (.iload_n 1, 1) := by decide +kernel
theorem dX6_takes_1 : decode cX6_takes 1 = .ok (.ifCond .lt 28, 3) := by decide +kernel
theorem dX6_takes_4 : decode cX6_takes 4 = .ok (.iload_n 1, 1) := by decide +kernel
theorem dX6_takes_5 : decode cX6_takes 5 = .ok (.getstatic 30, 3) := by decide +kernel
theorem dX6_takes_8 : decode cX6_takes 8 = .ok (.arraylength, 1) := by decide +kernel
theorem dX6_takes_9 : decode cX6_takes 9 = .ok (.if_icmp .ge 20, 3) := by decide +kernel
theorem dX6_takes_12 : decode cX6_takes 12 = .ok (.iload_n 2, 1) := by decide +kernel
theorem dX6_takes_13 : decode cX6_takes 13 = .ok (.ifCond .lt 16, 3) := by decide +kernel
theorem dX6_takes_16 : decode cX6_takes 16 = .ok (.iload_n 2, 1) := by decide +kernel
theorem dX6_takes_17 : decode cX6_takes 17 = .ok (.getstatic 30, 3) := by decide +kernel
theorem dX6_takes_20 : decode cX6_takes 20 = .ok (.iload_n 1, 1) := by decide +kernel
theorem dX6_takes_21 : decode cX6_takes 21 = .ok (.iaload, 1) := by decide +kernel
theorem dX6_takes_22 : decode cX6_takes 22 = .ok (.if_icmp .gt 7, 3) := by decide +kernel
theorem dX6_takes_25 : decode cX6_takes 25 = .ok (.iconst 1, 1) := by decide +kernel
theorem dX6_takes_26 : decode cX6_takes 26 = .ok (.goto 4, 3) := by decide +kernel
theorem dX6_takes_29 : decode cX6_takes 29 = .ok (.iconst 0, 1) := by decide +kernel
theorem dX6_takes_30 : decode cX6_takes 30 = .ok (.ireturn, 1) := by decide +kernel
theorem dX6_change_0 : decode cX6_change 0 = .ok (.iconst (-1), 1) := by decide +kernel
theorem dX6_change_1 : decode cX6_change 1 = .ok (.istore_n 3, 1) := by decide +kernel
theorem dX6_change_2 : decode cX6_change 2 = .ok (.iload_n 1, 1) := by decide +kernel
theorem dX6_change_3 : decode cX6_change 3 = .ok (.tableswitch 115 0 5 #[37, 50, 63, 76, 89, 102], 37) := by decide +kernel
theorem dX6_change_40 : decode cX6_change 40 = .ok (.aload_n 0, 1) := by decide +kernel
theorem dX6_change_41 : decode cX6_change 41 = .ok (.getfield 9, 3) := by decide +kernel
theorem dX6_change_44 : decode cX6_change 44 = .ok (.istore_n 3, 1) := by decide +kernel
theorem dX6_change_45 : decode cX6_change 45 = .ok (.aload_n 0, 1) := by decide +kernel
theorem dX6_change_46 : decode cX6_change 46 = .ok (.iload_n 2, 1) := by decide +kernel
theorem dX6_change_47 : decode cX6_change 47 = .ok (.putfield 9, 3) := by decide +kernel
theorem dX6_change_50 : decode cX6_change 50 = .ok (.goto 68, 3) := by decide +kernel
theorem dX6_change_53 : decode cX6_change 53 = .ok (.aload_n 0, 1) := by decide +kernel
theorem dX6_change_54 : decode cX6_change 54 = .ok (.getfield 15, 3) := by decide +kernel
theorem dX6_change_57 : decode cX6_change 57 = .ok (.istore_n 3, 1) := by decide +kernel
theorem dX6_change_58 : decode cX6_change 58 = .ok (.aload_n 0, 1) := by decide +kernel
theorem dX6_change_59 : decode cX6_change 59 = .ok (.iload_n 2, 1) := by decide +kernel
theorem dX6_change_60 : decode cX6_change 60 = .ok (.putfield 15, 3) := by decide +kernel
theorem dX6_change_63 : decode cX6_change 63 = .ok (.goto 55, 3) := by decide +kernel
theorem dX6_change_66 : decode cX6_change 66 = .ok (.aload_n 0, 1) := by decide +kernel
theorem dX6_change_67 : decode cX6_change 67 = .ok (.getfield 18, 3) := by decide +kernel
theorem dX6_change_70 : decode cX6_change 70 = .ok (.istore_n 3, 1) := by decide +kernel
theorem dX6_change_71 : decode cX6_change 71 = .ok (.aload_n 0, 1) := by decide +kernel
theorem dX6_change_72 : decode cX6_change 72 = .ok (.iload_n 2, 1) := by decide +kernel
theorem dX6_change_73 : decode cX6_change 73 = .ok (.putfield 18, 3) := by decide +kernel
theorem dX6_change_76 : decode cX6_change 76 = .ok (.goto 42, 3) := by decide +kernel
theorem dX6_change_79 : decode cX6_change 79 = .ok (.aload_n 0, 1) := by decide +kernel
theorem dX6_change_80 : decode cX6_change 80 = .ok (.getfield 21, 3) := by decide +kernel
theorem dX6_change_83 : decode cX6_change 83 = .ok (.istore_n 3, 1) := by decide +kernel
theorem dX6_change_84 : decode cX6_change 84 = .ok (.aload_n 0, 1) := by decide +kernel
theorem dX6_change_85 : decode cX6_change 85 = .ok (.iload_n 2, 1) := by decide +kernel
theorem dX6_change_86 : decode cX6_change 86 = .ok (.putfield 21, 3) := by decide +kernel
theorem dX6_change_89 : decode cX6_change 89 = .ok (.goto 29, 3) := by decide +kernel
theorem dX6_change_92 : decode cX6_change 92 = .ok (.aload_n 0, 1) := by decide +kernel
theorem dX6_change_93 : decode cX6_change 93 = .ok (.getfield 24, 3) := by decide +kernel
theorem dX6_change_96 : decode cX6_change 96 = .ok (.istore_n 3, 1) := by decide +kernel
theorem dX6_change_97 : decode cX6_change 97 = .ok (.aload_n 0, 1) := by decide +kernel
theorem dX6_change_98 : decode cX6_change 98 = .ok (.iload_n 2, 1) := by decide +kernel
theorem dX6_change_99 : decode cX6_change 99 = .ok (.putfield 24, 3) := by decide +kernel
theorem dX6_change_102 : decode cX6_change 102 = .ok (.goto 16, 3) := by decide +kernel
theorem dX6_change_105 : decode cX6_change 105 = .ok (.aload_n 0, 1) := by decide +kernel
theorem dX6_change_106 : decode cX6_change 106 = .ok (.getfield 27, 3) := by decide +kernel
theorem dX6_change_109 : decode cX6_change 109 = .ok (.istore_n 3, 1) := by decide +kernel
theorem dX6_change_110 : decode cX6_change 110 = .ok (.aload_n 0, 1) := by decide +kernel
theorem dX6_change_111 : decode cX6_change 111 = .ok (.iload_n 2, 1) := by decide +kernel
theorem dX6_change_112 : decode cX6_change 112 = .ok (.putfield 27, 3) := by decide +kernel
theorem dX6_change_115 : decode cX6_change 115 = .ok (.goto 3, 3) := by decide +kernel
theorem dX6_change_118 : decode cX6_change 118 = .ok (.iload_n 3, 1) := by decide +kernel
theorem dX6_change_119 : decode cX6_change 119 = .ok (.ireturn, 1) := by decide +kernel
theorem dX6_pace_0 : decode cX6_pace 0 = .ok (.aload_n 0, 1) := by decide +kernel
theorem dX6_pace_1 : decode cX6_pace 1 = .ok (.getfield 15, 3) := by decide +kernel
theorem dX6_pace_4 : decode cX6_pace 4 = .ok (.iconst 1, 1) := by decide +kernel
theorem dX6_pace_5 : decode cX6_pace 5 = .ok (.if_icmp .ne 7, 3) := by decide +kernel
theorem dX6_pace_8 : decode cX6_pace 8 = .ok (.iconst 2, 1) := by decide +kernel
theorem dX6_pace_9 : decode cX6_pace 9 = .ok (.goto 4, 3) := by decide +kernel
theorem dX6_pace_12 : decode cX6_pace 12 = .ok (.iconst 1, 1) := by decide +kernel
theorem dX6_pace_13 : decode cX6_pace 13 = .ok (.ireturn, 1) := by decide +kernel
theorem dX7_init_0 : decode cX7_init 0 = .ok (.aload_n 0, 1) := by decide +kernel
theorem dX7_init_1 : decode cX7_init 1 = .ok (.invokespecial 3, 3) := by decide +kernel
theorem dX7_init_4 : decode cX7_init 4 = .ok (.aload_n 0, 1) := by decide +kernel
theorem dX7_init_5 : decode cX7_init 5 = .ok (.bipush 60, 2) := by decide +kernel
theorem dX7_init_7 : decode cX7_init 7 = .ok (.newarray .int, 2) := by decide +kernel
theorem dX7_init_9 : decode cX7_init 9 = .ok (.putfield 9, 3) := by decide +kernel
theorem dX7_init_12 : decode cX7_init 12 = .ok (.aload_n 0, 1) := by decide +kernel
theorem dX7_init_13 : decode cX7_init 13 = .ok (.iconst (-1), 1) := by decide +kernel
theorem dX7_init_14 : decode cX7_init 14 = .ok (.putfield 15, 3) := by decide +kernel
theorem dX7_init_17 : decode cX7_init 17 = .ok (.return_, 1) := by decide +kernel
theorem dX7_isForm_0 : decode cX7_isForm 0 = .ok (.iload_n 0, 1) := by decide +kernel
theorem dX7_isForm_1 : decode cX7_isForm 1 = .ok (.ifCond .lt 12, 3) := by decide +kernel
theorem dX7_isForm_4 : decode cX7_isForm 4 = .ok (.iload_n 0, 1) := by decide +kernel
theorem dX7_isForm_5 : decode cX7_isForm 5 = .ok (.iconst 2, 1) := by decide +kernel
theorem dX7_isForm_6 : decode cX7_isForm 6 = .ok (.if_icmp .gt 7, 3) := by decide +kernel
theorem dX7_isForm_9 : decode cX7_isForm 9 = .ok (.iconst 1, 1) := by decide +kernel
theorem dX7_isForm_10 : decode cX7_isForm 10 = .ok (.goto 4, 3) := by decide +kernel
theorem dX7_isForm_13 : decode cX7_isForm 13 = .ok (.iconst 0, 1) := by decide +kernel
theorem dX7_isForm_14 : decode cX7_isForm 14 = .ok (.ireturn, 1) := by decide +kernel
theorem dX7_isLost_0 : decode cX7_isLost 0 = .ok (.aload_n 0, 1) := by decide +kernel
theorem dX7_isLost_1 : decode cX7_isLost 1 = .ok (.getfield 15, 3) := by decide +kernel
theorem dX7_isLost_4 : decode cX7_isLost 4 = .ok (.iconst (-1), 1) := by decide +kernel
theorem dX7_isLost_5 : decode cX7_isLost 5 = .ok (.if_icmp .ne 7, 3) := by decide +kernel
theorem dX7_isLost_8 : decode cX7_isLost 8 = .ok (.iconst 1, 1) := by decide +kernel
theorem dX7_isLost_9 : decode cX7_isLost 9 = .ok (.goto 4, 3) := by decide +kernel
theorem dX7_isLost_12 : decode cX7_isLost 12 = .ok (.iconst 0, 1) := by decide +kernel
theorem dX7_isLost_13 : decode cX7_isLost 13 = .ok (.ireturn, 1) := by decide +kernel
theorem dX7_isLike_0 : decode cX7_isLike 0 = .ok (.aload_n 0, 1) := by decide +kernel
theorem dX7_isLike_1 : decode cX7_isLike 1 = .ok (.getfield 15, 3) := by decide +kernel
theorem dX7_isLike_4 : decode cX7_isLike 4 = .ok (.aload_n 1, 1) := by decide +kernel
theorem dX7_isLike_5 : decode cX7_isLike 5 = .ok (.getfield 15, 3) := by decide +kernel
theorem dX7_isLike_8 : decode cX7_isLike 8 = .ok (.if_icmp .ne 7, 3) := by decide +kernel
theorem dX7_isLike_11 : decode cX7_isLike 11 = .ok (.iconst 1, 1) := by decide +kernel
theorem dX7_isLike_12 : decode cX7_isLike 12 = .ok (.goto 4, 3) := by decide +kernel
theorem dX7_isLike_15 : decode cX7_isLike 15 = .ok (.iconst 0, 1) := by decide +kernel
theorem dX7_isLike_16 : decode cX7_isLike 16 = .ok (.ireturn, 1) := by decide +kernel
theorem dX7_size_0 : decode cX7_size 0 = .ok (.aload_n 0, 1) := by decide +kernel
theorem dX7_size_1 : decode cX7_size 1 = .ok (.getfield 19, 3) := by decide +kernel
theorem dX7_size_4 : decode cX7_size 4 = .ok (.ireturn, 1) := by decide +kernel
theorem dX7_renew_0 : decode cX7_renew 0 = .ok (.aload_n 0, 1) := by decide +kernel
theorem dX7_renew_1 : decode cX7_renew 1 = .ok (.iload_n 1, 1) := by decide +kernel
theorem dX7_renew_2 : decode cX7_renew 2 = .ok (.putfield 15, 3) := by decide +kernel
theorem dX7_renew_5 : decode cX7_renew 5 = .ok (.aload_n 0, 1) := by decide +kernel
theorem dX7_renew_6 : decode cX7_renew 6 = .ok (.iconst 0, 1) := by decide +kernel
theorem dX7_renew_7 : decode cX7_renew 7 = .ok (.iload_n 2, 1) := by decide +kernel
theorem dX7_renew_8 : decode cX7_renew 8 = .ok (.bipush 60, 2) := by decide +kernel
theorem dX7_renew_10 : decode cX7_renew 10 = .ok (.invokestatic 22, 3) := by decide +kernel
theorem dX7_renew_13 : decode cX7_renew 13 = .ok (.invokestatic 28, 3) := by decide +kernel
theorem dX7_renew_16 : decode cX7_renew 16 = .ok (.putfield 19, 3) := by decide +kernel
theorem dX7_renew_19 : decode cX7_renew 19 = .ok (.aload_n 0, 1) := by decide +kernel
theorem dX7_renew_20 : decode cX7_renew 20 = .ok (.getfield 9, 3) := by decide +kernel
theorem dX7_renew_23 : decode cX7_renew 23 = .ok (.iconst 0, 1) := by decide +kernel
theorem dX7_renew_24 : decode cX7_renew 24 = .ok (.invokestatic 31, 3) := by decide +kernel
theorem dX7_renew_27 : decode cX7_renew 27 = .ok (.return_, 1) := by decide +kernel
theorem dX7_drop_0 : decode cX7_drop 0 = .ok (.aload_n 0, 1) := by decide +kernel
theorem dX7_drop_1 : decode cX7_drop 1 = .ok (.iconst (-1), 1) := by decide +kernel
theorem dX7_drop_2 : decode cX7_drop 2 = .ok (.putfield 15, 3) := by decide +kernel
theorem dX7_drop_5 : decode cX7_drop 5 = .ok (.aload_n 0, 1) := by decide +kernel
theorem dX7_drop_6 : decode cX7_drop 6 = .ok (.iconst 0, 1) := by decide +kernel
theorem dX7_drop_7 : decode cX7_drop 7 = .ok (.putfield 19, 3) := by decide +kernel
theorem dX7_drop_10 : decode cX7_drop 10 = .ok (.return_, 1) := by decide +kernel
theorem dX7_wrongAt_0 : decode cX7_wrongAt 0 = .ok (.aload_n 0, 1) := by decide +kernel
theorem dX7_wrongAt_1 : decode cX7_wrongAt 1 = .ok (.invokevirtual 37, 3) := by decide +kernel
theorem dX7_wrongAt_4 : decode cX7_wrongAt 4 = .ok (.ifCond .eq 5, 3) := by decide +kernel
theorem dX7_wrongAt_7 : decode cX7_wrongAt 7 = .ok (.iconst 1, 1) := by decide +kernel
theorem dX7_wrongAt_8 : decode cX7_wrongAt 8 = .ok (.ireturn, 1) := by decide +kernel
theorem dX7_wrongAt_9 : decode cX7_wrongAt 9 = .ok (.aload_n 0, 1) := by decide +kernel
theorem dX7_wrongAt_10 : decode cX7_wrongAt 10 = .ok (.getfield 15, 3) := by decide +kernel
theorem dX7_wrongAt_13 : decode cX7_wrongAt 13 = .ok (.iload_n 1, 1) := by decide +kernel
theorem dX7_wrongAt_14 : decode cX7_wrongAt 14 = .ok (.if_icmp .eq 5, 3) := by decide +kernel
theorem dX7_wrongAt_17 : decode cX7_wrongAt 17 = .ok (.iconst 3, 1) := by decide +kernel
theorem dX7_wrongAt_18 : decode cX7_wrongAt 18 = .ok (.ireturn, 1) := by decide +kernel
theorem dX7_wrongAt_19 : decode cX7_wrongAt 19 = .ok (.aload_n 0, 1) := by decide +kernel
theorem dX7_wrongAt_20 : decode cX7_wrongAt 20 = .ok (.iload_n 2, 1) := by decide +kernel
theorem dX7_wrongAt_21 : decode cX7_wrongAt 21 = .ok (.iconst 1, 1) := by decide +kernel
theorem dX7_wrongAt_22 : decode cX7_wrongAt 22 = .ok (.invokevirtual 41, 3) := by decide +kernel
theorem dX7_wrongAt_25 : decode cX7_wrongAt 25 = .ok (.ifCond .eq 7, 3) := by decide +kernel
theorem dX7_wrongAt_28 : decode cX7_wrongAt 28 = .ok (.iconst 0, 1) := by decide +kernel
theorem dX7_wrongAt_29 : decode cX7_wrongAt 29 = .ok (.goto 4, 3) := by decide +kernel
theorem dX7_wrongAt_32 : decode cX7_wrongAt 32 = .ok (.iconst 2, 1) := by decide +kernel
theorem dX7_wrongAt_33 : decode cX7_wrongAt 33 = .ok (.ireturn, 1) := by decide +kernel
theorem dX7_holds_0 : decode cX7_holds 0 = .ok (.iload_n 1, 1) := by decide +kernel
theorem dX7_holds_1 : decode cX7_holds 1 = .ok (.ifCond .lt 29, 3) := by decide +kernel
theorem dX7_holds_4 : decode cX7_holds 4 = .ok (.iload_n 2, 1) := by decide +kernel
theorem dX7_holds_5 : decode cX7_holds 5 = .ok (.ifCond .lt 25, 3) := by decide +kernel
theorem dX7_holds_8 : decode cX7_holds 8 = .ok (.iload_n 2, 1) := by decide +kernel
theorem dX7_holds_9 : decode cX7_holds 9 = .ok (.aload_n 0, 1) := by decide +kernel
theorem dX7_holds_10 : decode cX7_holds 10 = .ok (.getfield 19, 3) := by decide +kernel
theorem dX7_holds_13 : decode cX7_holds 13 = .ok (.if_icmp .gt 17, 3) := by decide +kernel
theorem dX7_holds_16 : decode cX7_holds 16 = .ok (.iload_n 1, 1) := by decide +kernel
theorem dX7_holds_17 : decode cX7_holds 17 = .ok (.aload_n 0, 1) := by decide +kernel
theorem dX7_holds_18 : decode cX7_holds 18 = .ok (.getfield 19, 3) := by decide +kernel
theorem dX7_holds_21 : decode cX7_holds 21 = .ok (.iload_n 2, 1) := by decide +kernel
theorem dX7_holds_22 : decode cX7_holds 22 = .ok (.isub, 1) := by decide +kernel
theorem dX7_holds_23 : decode cX7_holds 23 = .ok (.if_icmp .gt 7, 3) := by decide +kernel
theorem dX7_holds_26 : decode cX7_holds 26 = .ok (.iconst 1, 1) := by decide +kernel
theorem dX7_holds_27 : decode cX7_holds 27 = .ok (.goto 4, 3) := by decide +kernel
theorem dX7_holds_30 : decode cX7_holds 30 = .ok (.iconst 0, 1) := by decide +kernel
theorem dX7_holds_31 : decode cX7_holds 31 = .ok (.ireturn, 1) := by decide +kernel
theorem dX7_item_0 : decode cX7_item 0 = .ok (.iload_n 1, 1) := by decide +kernel
theorem dX7_item_1 : decode cX7_item 1 = .ok (.ifCond .lt 29, 3) := by decide +kernel
theorem dX7_item_4 : decode cX7_item 4 = .ok (.iload_n 1, 1) := by decide +kernel
theorem dX7_item_5 : decode cX7_item 5 = .ok (.aload_n 0, 1) := by decide +kernel
theorem dX7_item_6 : decode cX7_item 6 = .ok (.getfield 19, 3) := by decide +kernel
theorem dX7_item_9 : decode cX7_item 9 = .ok (.if_icmp .ge 21, 3) := by decide +kernel
theorem dX7_item_12 : decode cX7_item 12 = .ok (.iload_n 1, 1) := by decide +kernel
theorem dX7_item_13 : decode cX7_item 13 = .ok (.aload_n 0, 1) := by decide +kernel
theorem dX7_item_14 : decode cX7_item 14 = .ok (.getfield 9, 3) := by decide +kernel
theorem dX7_item_17 : decode cX7_item 17 = .ok (.arraylength, 1) := by decide +kernel
theorem dX7_item_18 : decode cX7_item 18 = .ok (.if_icmp .ge 12, 3) := by decide +kernel
theorem dX7_item_21 : decode cX7_item 21 = .ok (.aload_n 0, 1) := by decide +kernel
theorem dX7_item_22 : decode cX7_item 22 = .ok (.getfield 9, 3) := by decide +kernel
theorem dX7_item_25 : decode cX7_item 25 = .ok (.iload_n 1, 1) := by decide +kernel
theorem dX7_item_26 : decode cX7_item 26 = .ok (.iaload, 1) := by decide +kernel
theorem dX7_item_27 : decode cX7_item 27 = .ok (.goto 4, 3) := by decide +kernel
theorem dX7_item_30 : decode cX7_item 30 = .ok (.iconst 0, 1) := by decide +kernel
theorem dX7_item_31 : decode cX7_item 31 = .ok (.ireturn, 1) := by decide +kernel
theorem dX7_put_0 : decode cX7_put 0 = .ok (.iload_n 1, 1) := by decide +kernel
theorem dX7_put_1 : decode cX7_put 1 = .ok (.ifCond .lt 31, 3) := by decide +kernel
theorem dX7_put_4 : decode cX7_put 4 = .ok (.iload_n 1, 1) := by decide +kernel
theorem dX7_put_5 : decode cX7_put 5 = .ok (.aload_n 0, 1) := by decide +kernel
theorem dX7_put_6 : decode cX7_put 6 = .ok (.getfield 19, 3) := by decide +kernel
theorem dX7_put_9 : decode cX7_put 9 = .ok (.if_icmp .ge 23, 3) := by decide +kernel
theorem dX7_put_12 : decode cX7_put 12 = .ok (.iload_n 1, 1) := by decide +kernel
theorem dX7_put_13 : decode cX7_put 13 = .ok (.aload_n 0, 1) := by decide +kernel
theorem dX7_put_14 : decode cX7_put 14 = .ok (.getfield 9, 3) := by decide +kernel
theorem dX7_put_17 : decode cX7_put 17 = .ok (.arraylength, 1) := by decide +kernel
theorem dX7_put_18 : decode cX7_put 18 = .ok (.if_icmp .ge 14, 3) := by decide +kernel
theorem dX7_put_21 : decode cX7_put 21 = .ok (.aload_n 0, 1) := by decide +kernel
theorem dX7_put_22 : decode cX7_put 22 = .ok (.getfield 9, 3) := by decide +kernel
theorem dX7_put_25 : decode cX7_put 25 = .ok (.iload_n 1, 1) := by decide +kernel
theorem dX7_put_26 : decode cX7_put 26 = .ok (.aload_n 0, 1) := by decide +kernel
theorem dX7_put_27 : decode cX7_put 27 = .ok (.iload_n 2, 1) := by decide +kernel
theorem dX7_put_28 : decode cX7_put 28 = .ok (.invokevirtual 45, 3) := by decide +kernel
theorem dX7_put_31 : decode cX7_put 31 = .ok (.iastore, 1) := by decide +kernel
theorem dX7_put_32 : decode cX7_put 32 = .ok (.return_, 1) := by decide +kernel
theorem dX7_cut_0 : decode cX7_cut 0 = .ok (.aload_n 0, 1) := by decide +kernel
theorem dX7_cut_1 : decode cX7_cut 1 = .ok (.getfield 15, 3) := by decide +kernel
theorem dX7_cut_4 : decode cX7_cut 4 = .ok (.ifCond .ne 6, 3) := by decide +kernel
theorem dX7_cut_7 : decode cX7_cut 7 = .ok (.iload_n 1, 1) := by decide +kernel
theorem dX7_cut_8 : decode cX7_cut 8 = .ok (.i2b, 1) := by decide +kernel
theorem dX7_cut_9 : decode cX7_cut 9 = .ok (.ireturn, 1) := by decide +kernel
theorem dX7_cut_10 : decode cX7_cut 10 = .ok (.aload_n 0, 1) := by decide +kernel
theorem dX7_cut_11 : decode cX7_cut 11 = .ok (.getfield 15, 3) := by decide +kernel
theorem dX7_cut_14 : decode cX7_cut 14 = .ok (.iconst 1, 1) := by decide +kernel
theorem dX7_cut_15 : decode cX7_cut 15 = .ok (.if_icmp .ne 8, 3) := by decide +kernel
theorem dX7_cut_18 : decode cX7_cut 18 = .ok (.iload_n 1, 1) := by decide +kernel
theorem dX7_cut_19 : decode cX7_cut 19 = .ok (.i2s, 1) := by decide +kernel
theorem dX7_cut_20 : decode cX7_cut 20 = .ok (.goto 4, 3) := by decide +kernel
theorem dX7_cut_23 : decode cX7_cut 23 = .ok (.iload_n 1, 1) := by decide +kernel
theorem dX7_cut_24 : decode cX7_cut 24 = .ok (.ireturn, 1) := by decide +kernel
theorem dX7_takeFrom_0 : decode cX7_takeFrom 0 = .ok (.aload_n 1, 1) := by decide +kernel
theorem dX7_takeFrom_1 : decode cX7_takeFrom 1 = .ok (.iload_n 2, 1) := by decide +kernel
theorem dX7_takeFrom_2 : decode cX7_takeFrom 2 = .ok (.iload 4, 2) := by decide +kernel
theorem dX7_takeFrom_4 : decode cX7_takeFrom 4 = .ok (.invokevirtual 41, 3) := by decide +kernel
theorem dX7_takeFrom_7 : decode cX7_takeFrom 7 = .ok (.ifCond .eq 28, 3) := by decide +kernel
theorem dX7_takeFrom_10 : decode cX7_takeFrom 10 = .ok (.aload_n 0, 1) := by decide +kernel
theorem dX7_takeFrom_11 : decode cX7_takeFrom 11 = .ok (.iload_n 3, 1) := by decide +kernel
theorem dX7_takeFrom_12 : decode cX7_takeFrom 12 = .ok (.iload 4, 2) := by decide +kernel
theorem dX7_takeFrom_14 : decode cX7_takeFrom 14 = .ok (.invokevirtual 41, 3) := by decide +kernel
theorem dX7_takeFrom_17 : decode cX7_takeFrom 17 = .ok (.ifCond .eq 18, 3) := by decide +kernel
theorem dX7_takeFrom_20 : decode cX7_takeFrom 20 = .ok (.aload_n 1, 1) := by decide +kernel
theorem dX7_takeFrom_21 : decode cX7_takeFrom 21 = .ok (.getfield 9, 3) := by decide +kernel
theorem dX7_takeFrom_24 : decode cX7_takeFrom 24 = .ok (.iload_n 2, 1) := by decide +kernel
theorem dX7_takeFrom_25 : decode cX7_takeFrom 25 = .ok (.aload_n 0, 1) := by decide +kernel
theorem dX7_takeFrom_26 : decode cX7_takeFrom 26 = .ok (.getfield 9, 3) := by decide +kernel
theorem dX7_takeFrom_29 : decode cX7_takeFrom 29 = .ok (.iload_n 3, 1) := by decide +kernel
theorem dX7_takeFrom_30 : decode cX7_takeFrom 30 = .ok (.iload 4, 2) := by decide +kernel
theorem dX7_takeFrom_32 : decode cX7_takeFrom 32 = .ok (.invokestatic 49, 3) := by decide +kernel
theorem dX7_takeFrom_35 : decode cX7_takeFrom 35 = .ok (.return_, 1) := by decide +kernel
theorem dX8_init_0 : decode cX8_init 0 = .ok (.aload_n 0, 1) := by decide +kernel
theorem dX8_init_1 : decode cX8_init 1 = .ok (.invokespecial 3, 3) := by decide +kernel
theorem dX8_init_4 : decode cX8_init 4 = .ok (.aload_n 0, 1) := by decide +kernel
theorem dX8_init_5 : decode cX8_init 5 = .ok (.bipush 32, 2) := by decide +kernel
theorem dX8_init_7 : decode cX8_init 7 = .ok (.newarray .int, 2) := by decide +kernel
theorem dX8_init_9 : decode cX8_init 9 = .ok (.putfield 9, 3) := by decide +kernel
theorem dX8_init_12 : decode cX8_init 12 = .ok (.aload_n 0, 1) := by decide +kernel
theorem dX8_init_13 : decode cX8_init 13 = .ok (.aload_n 1, 1) := by decide +kernel
theorem dX8_init_14 : decode cX8_init 14 = .ok (.putfield 15, 3) := by decide +kernel
theorem dX8_init_17 : decode cX8_init 17 = .ok (.aload_n 0, 1) := by decide +kernel
theorem dX8_init_18 : decode cX8_init 18 = .ok (.aload_n 2, 1) := by decide +kernel
theorem dX8_init_19 : decode cX8_init 19 = .ok (.putfield 19, 3) := by decide +kernel
theorem dX8_init_22 : decode cX8_init 22 = .ok (.aload_n 0, 1) := by decide +kernel
theorem dX8_init_23 : decode cX8_init 23 = .ok (.aload_n 3, 1) := by decide +kernel
theorem dX8_init_24 : decode cX8_init 24 = .ok (.putfield 23, 3) := by decide +kernel
theorem dX8_init_27 : decode cX8_init 27 = .ok (.return_, 1) := by decide +kernel
theorem dX8_minutesInAll_0 : decode cX8_minutesInAll 0 = .ok (.aload_n 0, 1) := by decide +kernel
theorem dX8_minutesInAll_1 : decode cX8_minutesInAll 1 = .ok (.getfield 19, 3) := by decide +kernel
theorem dX8_minutesInAll_4 : decode cX8_minutesInAll 4 = .ok (.invokevirtual 27, 3) := by decide +kernel
theorem dX8_minutesInAll_7 : decode cX8_minutesInAll 7 = .ok (.ifCond .eq 13, 3) := by decide +kernel
theorem dX8_minutesInAll_10 : decode cX8_minutesInAll 10 = .ok (.aload_n 0, 1) := by decide +kernel
theorem dX8_minutesInAll_11 : decode cX8_minutesInAll 11 = .ok (.getfield 15, 3) := by decide +kernel
theorem dX8_minutesInAll_14 : decode cX8_minutesInAll 14 = .ok (.getfield 33, 3) := by decide +kernel
theorem dX8_minutesInAll_17 : decode cX8_minutesInAll 17 = .ok (.ifCond .ne 5, 3) := by decide +kernel
theorem dX8_minutesInAll_20 : decode cX8_minutesInAll 20 = .ok (.iconst 0, 1) := by decide +kernel
theorem dX8_minutesInAll_21 : decode cX8_minutesInAll 21 = .ok (.ireturn, 1) := by decide +kernel
theorem dX8_minutesInAll_22 : decode cX8_minutesInAll 22 = .ok (.aload_n 0, 1) := by decide +kernel
theorem dX8_minutesInAll_23 : decode cX8_minutesInAll 23 = .ok (.getfield 19, 3) := by decide +kernel
theorem dX8_minutesInAll_26 : decode cX8_minutesInAll 26 = .ok (.invokevirtual 27, 3) := by decide +kernel
theorem dX8_minutesInAll_29 : decode cX8_minutesInAll 29 = .ok (.iconst 1, 1) := by decide +kernel
theorem dX8_minutesInAll_30 : decode cX8_minutesInAll 30 = .ok (.isub, 1) := by decide +kernel
theorem dX8_minutesInAll_31 : decode cX8_minutesInAll 31 = .ok (.aload_n 0, 1) := by decide +kernel
theorem dX8_minutesInAll_32 : decode cX8_minutesInAll 32 = .ok (.getfield 23, 3) := by decide +kernel
theorem dX8_minutesInAll_35 : decode cX8_minutesInAll 35 = .ok (.getfield 39, 3) := by decide +kernel
theorem dX8_minutesInAll_38 : decode cX8_minutesInAll 38 = .ok (.imul, 1) := by decide +kernel
theorem dX8_minutesInAll_39 : decode cX8_minutesInAll 39 = .ok (.aload_n 0, 1) := by decide +kernel
theorem dX8_minutesInAll_40 : decode cX8_minutesInAll 40 = .ok (.getfield 15, 3) := by decide +kernel
theorem dX8_minutesInAll_43 : decode cX8_minutesInAll 43 = .ok (.getfield 33, 3) := by decide +kernel
theorem dX8_minutesInAll_46 : decode cX8_minutesInAll 46 = .ok (.aload_n 0, 1) := by decide +kernel
theorem dX8_minutesInAll_47 : decode cX8_minutesInAll 47 = .ok (.getfield 23, 3) := by decide +kernel
theorem dX8_minutesInAll_50 : decode cX8_minutesInAll 50 = .ok (.invokevirtual 44, 3) := by decide +kernel
theorem dX8_minutesInAll_53 : decode cX8_minutesInAll 53 = .ok (.imul, 1) := by decide +kernel
theorem dX8_minutesInAll_54 : decode cX8_minutesInAll 54 = .ok (.iadd, 1) := by decide +kernel
theorem dX8_minutesInAll_55 : decode cX8_minutesInAll 55 = .ok (.ireturn, 1) := by decide +kernel
theorem dX8_partOf_0 : decode cX8_partOf 0 = .ok (.aload_n 0, 1) := by decide +kernel
theorem dX8_partOf_1 : decode cX8_partOf 1 = .ok (.iload_n 2, 1) := by decide +kernel
theorem dX8_partOf_2 : decode cX8_partOf 2 = .ok (.aload_n 0, 1) := by decide +kernel
theorem dX8_partOf_3 : decode cX8_partOf 3 = .ok (.getfield 23, 3) := by decide +kernel
theorem dX8_partOf_6 : decode cX8_partOf 6 = .ok (.getfield 47, 3) := by decide +kernel
theorem dX8_partOf_9 : decode cX8_partOf 9 = .ok (.isub, 1) := by decide +kernel
theorem dX8_partOf_10 : decode cX8_partOf 10 = .ok (.iload_n 1, 1) := by decide +kernel
theorem dX8_partOf_11 : decode cX8_partOf 11 = .ok (.aload_n 0, 1) := by decide +kernel
theorem dX8_partOf_12 : decode cX8_partOf 12 = .ok (.getfield 23, 3) := by decide +kernel
theorem dX8_partOf_15 : decode cX8_partOf 15 = .ok (.getfield 39, 3) := by decide +kernel
theorem dX8_partOf_18 : decode cX8_partOf 18 = .ok (.imul, 1) := by decide +kernel
theorem dX8_partOf_19 : decode cX8_partOf 19 = .ok (.isub, 1) := by decide +kernel
theorem dX8_partOf_20 : decode cX8_partOf 20 = .ok (.invokevirtual 50, 3) := by decide +kernel
theorem dX8_partOf_23 : decode cX8_partOf 23 = .ok (.ireturn, 1) := by decide +kernel
theorem dX8_partAfter_0 : decode cX8_partAfter 0 = .ok (.iload_n 1, 1) := by decide +kernel
theorem dX8_partAfter_1 : decode cX8_partAfter 1 = .ok (.ifCond .ge 5, 3) := by decide +kernel
theorem dX8_partAfter_4 : decode cX8_partAfter 4 = .ok (.iconst (-1), 1) := by decide +kernel
theorem dX8_partAfter_5 : decode cX8_partAfter 5 = .ok (.ireturn, 1) := by decide +kernel
theorem dX8_partAfter_6 : decode cX8_partAfter 6 = .ok (.aload_n 0, 1) := by decide +kernel
theorem dX8_partAfter_7 : decode cX8_partAfter 7 = .ok (.getfield 23, 3) := by decide +kernel
theorem dX8_partAfter_10 : decode cX8_partAfter 10 = .ok (.getfield 54, 3) := by decide +kernel
theorem dX8_partAfter_13 : decode cX8_partAfter 13 = .ok (.iconst 1, 1) := by decide +kernel
theorem dX8_partAfter_14 : decode cX8_partAfter 14 = .ok (.if_icmp .ne 9, 3) := by decide +kernel
theorem dX8_partAfter_17 : decode cX8_partAfter 17 = .ok (.iload_n 1, 1) := by decide +kernel
theorem dX8_partAfter_18 : decode cX8_partAfter 18 = .ok (.iconst 2, 1) := by decide +kernel
theorem dX8_partAfter_19 : decode cX8_partAfter 19 = .ok (.idiv, 1) := by decide +kernel
theorem dX8_partAfter_20 : decode cX8_partAfter 20 = .ok (.goto 4, 3) := by decide +kernel
theorem dX8_partAfter_23 : decode cX8_partAfter 23 = .ok (.iload_n 1, 1) := by decide +kernel
theorem dX8_partAfter_24 : decode cX8_partAfter 24 = .ok (.istore_n 2, 1) := by decide +kernel
theorem dX8_partAfter_25 : decode cX8_partAfter 25 = .ok (.iload_n 2, 1) := by decide +kernel
theorem dX8_partAfter_26 : decode cX8_partAfter 26 = .ok (.aload_n 0, 1) := by decide +kernel
theorem dX8_partAfter_27 : decode cX8_partAfter 27 = .ok (.getfield 15, 3) := by decide +kernel
theorem dX8_partAfter_30 : decode cX8_partAfter 30 = .ok (.getfield 33, 3) := by decide +kernel
theorem dX8_partAfter_33 : decode cX8_partAfter 33 = .ok (.if_icmp .ge 7, 3) := by decide +kernel
theorem dX8_partAfter_36 : decode cX8_partAfter 36 = .ok (.iload_n 2, 1) := by decide +kernel
theorem dX8_partAfter_37 : decode cX8_partAfter 37 = .ok (.goto 4, 3) := by decide +kernel
theorem dX8_partAfter_40 : decode cX8_partAfter 40 = .ok (.iconst (-1), 1) := by decide +kernel
theorem dX8_partAfter_41 : decode cX8_partAfter 41 = .ok (.ireturn, 1) := by decide +kernel
theorem dX8_partEntered_0 : decode cX8_partEntered 0 = .ok (.aload_n 0, 1) := by decide +kernel
theorem dX8_partEntered_1 : decode cX8_partEntered 1 = .ok (.iload_n 1, 1) := by decide +kernel
theorem dX8_partEntered_2 : decode cX8_partEntered 2 = .ok (.iload_n 2, 1) := by decide +kernel
theorem dX8_partEntered_3 : decode cX8_partEntered 3 = .ok (.invokevirtual 57, 3) := by decide +kernel
theorem dX8_partEntered_6 : decode cX8_partEntered 6 = .ok (.istore_n 3, 1) := by decide +kernel
theorem dX8_partEntered_7 : decode cX8_partEntered 7 = .ok (.iload_n 3, 1) := by decide +kernel
theorem dX8_partEntered_8 : decode cX8_partEntered 8 = .ok (.aload_n 0, 1) := by decide +kernel
theorem dX8_partEntered_9 : decode cX8_partEntered 9 = .ok (.iload_n 1, 1) := by decide +kernel
theorem dX8_partEntered_10 : decode cX8_partEntered 10 = .ok (.iload_n 2, 1) := by decide +kernel
theorem dX8_partEntered_11 : decode cX8_partEntered 11 = .ok (.iconst 1, 1) := by decide +kernel
theorem dX8_partEntered_12 : decode cX8_partEntered 12 = .ok (.isub, 1) := by decide +kernel
theorem dX8_partEntered_13 : decode cX8_partEntered 13 = .ok (.invokevirtual 57, 3) := by decide +kernel
theorem dX8_partEntered_16 : decode cX8_partEntered 16 = .ok (.if_icmp .ne 7, 3) := by decide +kernel
theorem dX8_partEntered_19 : decode cX8_partEntered 19 = .ok (.iconst (-1), 1) := by decide +kernel
theorem dX8_partEntered_20 : decode cX8_partEntered 20 = .ok (.goto 4, 3) := by decide +kernel
theorem dX8_partEntered_23 : decode cX8_partEntered 23 = .ok (.iload_n 3, 1) := by decide +kernel
theorem dX8_partEntered_24 : decode cX8_partEntered 24 = .ok (.ireturn, 1) := by decide +kernel
theorem dX8_odds_0 : decode cX8_odds 0 = .ok (.iload_n 0, 1) := by decide +kernel
theorem dX8_odds_1 : decode cX8_odds 1 = .ok (.ifCond .gt 5, 3) := by decide +kernel
theorem dX8_odds_4 : decode cX8_odds 4 = .ok (.iconst 0, 1) := by decide +kernel
theorem dX8_odds_5 : decode cX8_odds 5 = .ok (.ireturn, 1) := by decide +kernel
theorem dX8_odds_6 : decode cX8_odds 6 = .ok (.iconst 0, 1) := by decide +kernel
theorem dX8_odds_7 : decode cX8_odds 7 = .ok (.bipush 16, 2) := by decide +kernel
theorem dX8_odds_9 : decode cX8_odds 9 = .ok (.iload_n 0, 1) := by decide +kernel
theorem dX8_odds_10 : decode cX8_odds 10 = .ok (.iload_n 1, 1) := by decide +kernel
theorem dX8_odds_11 : decode cX8_odds 11 = .ok (.iadd, 1) := by decide +kernel
theorem dX8_odds_12 : decode cX8_odds 12 = .ok (.invokestatic 61, 3) := by decide +kernel
theorem dX8_odds_15 : decode cX8_odds 15 = .ok (.invokestatic 66, 3) := by decide +kernel
theorem dX8_odds_18 : decode cX8_odds 18 = .ok (.ireturn, 1) := by decide +kernel
theorem dX8_oddsOf_0 : decode cX8_oddsOf 0 = .ok (.aload_n 0, 1) := by decide +kernel
theorem dX8_oddsOf_1 : decode cX8_oddsOf 1 = .ok (.getfield 15, 3) := by decide +kernel
theorem dX8_oddsOf_4 : decode cX8_oddsOf 4 = .ok (.iload_n 2, 1) := by decide +kernel
theorem dX8_oddsOf_5 : decode cX8_oddsOf 5 = .ok (.invokevirtual 69, 3) := by decide +kernel
theorem dX8_oddsOf_8 : decode cX8_oddsOf 8 = .ok (.aload_n 0, 1) := by decide +kernel
theorem dX8_oddsOf_9 : decode cX8_oddsOf 9 = .ok (.getfield 19, 3) := by decide +kernel
theorem dX8_oddsOf_12 : decode cX8_oddsOf 12 = .ok (.iload_n 1, 1) := by decide +kernel
theorem dX8_oddsOf_13 : decode cX8_oddsOf 13 = .ok (.invokevirtual 72, 3) := by decide +kernel
theorem dX8_oddsOf_16 : decode cX8_oddsOf 16 = .ok (.invokestatic 75, 3) := by decide +kernel
theorem dX8_oddsOf_19 : decode cX8_oddsOf 19 = .ok (.ireturn, 1) := by decide +kernel
theorem dX8_oddsOfFeet_0 : decode cX8_oddsOfFeet 0 = .ok (.iconst 0, 1) := by decide +kernel
theorem dX8_oddsOfFeet_1 : decode cX8_oddsOfFeet 1 = .ok (.istore_n 3, 1) := by decide +kernel
theorem dX8_oddsOfFeet_2 : decode cX8_oddsOfFeet 2 = .ok (.iconst 0, 1) := by decide +kernel
theorem dX8_oddsOfFeet_3 : decode cX8_oddsOfFeet 3 = .ok (.istore 4, 2) := by decide +kernel
theorem dX8_oddsOfFeet_5 : decode cX8_oddsOfFeet 5 = .ok (.iload 4, 2) := by decide +kernel
theorem dX8_oddsOfFeet_7 : decode cX8_oddsOfFeet 7 = .ok (.aload_n 0, 1) := by decide +kernel
theorem dX8_oddsOfFeet_8 : decode cX8_oddsOfFeet 8 = .ok (.getfield 19, 3) := by decide +kernel
theorem dX8_oddsOfFeet_11 : decode cX8_oddsOfFeet 11 = .ok (.invokevirtual 27, 3) := by decide +kernel
theorem dX8_oddsOfFeet_14 : decode cX8_oddsOfFeet 14 = .ok (.if_icmp .ge 30, 3) := by decide +kernel
theorem dX8_oddsOfFeet_17 : decode cX8_oddsOfFeet 17 = .ok (.aload_n 0, 1) := by decide +kernel
theorem dX8_oddsOfFeet_18 : decode cX8_oddsOfFeet 18 = .ok (.iload 4, 2) := by decide +kernel
theorem dX8_oddsOfFeet_20 : decode cX8_oddsOfFeet 20 = .ok (.iload_n 2, 1) := by decide +kernel
theorem dX8_oddsOfFeet_21 : decode cX8_oddsOfFeet 21 = .ok (.invokevirtual 78, 3) := by decide +kernel
theorem dX8_oddsOfFeet_24 : decode cX8_oddsOfFeet 24 = .ok (.iload_n 1, 1) := by decide +kernel
theorem dX8_oddsOfFeet_25 : decode cX8_oddsOfFeet 25 = .ok (.if_icmp .ne 13, 3) := by decide +kernel
theorem dX8_oddsOfFeet_28 : decode cX8_oddsOfFeet 28 = .ok (.iload_n 3, 1) := by decide +kernel
theorem dX8_oddsOfFeet_29 : decode cX8_oddsOfFeet 29 = .ok (.aload_n 0, 1) := by decide +kernel
theorem dX8_oddsOfFeet_30 : decode cX8_oddsOfFeet 30 = .ok (.iload 4, 2) := by decide +kernel
theorem dX8_oddsOfFeet_32 : decode cX8_oddsOfFeet 32 = .ok (.iload_n 1, 1) := by decide +kernel
theorem dX8_oddsOfFeet_33 : decode cX8_oddsOfFeet 33 = .ok (.invokevirtual 81, 3) := by decide +kernel
theorem dX8_oddsOfFeet_36 : decode cX8_oddsOfFeet 36 = .ok (.iadd, 1) := by decide +kernel
theorem dX8_oddsOfFeet_37 : decode cX8_oddsOfFeet 37 = .ok (.istore_n 3, 1) := by decide +kernel
theorem dX8_oddsOfFeet_38 : decode cX8_oddsOfFeet 38 = .ok (.iinc 4 1, 3) := by decide +kernel
theorem dX8_oddsOfFeet_41 : decode cX8_oddsOfFeet 41 = .ok (.goto (-36), 3) := by decide +kernel
theorem dX8_oddsOfFeet_44 : decode cX8_oddsOfFeet 44 = .ok (.iload_n 3, 1) := by decide +kernel
theorem dX8_oddsOfFeet_45 : decode cX8_oddsOfFeet 45 = .ok (.ireturn, 1) := by decide +kernel
theorem dX8_oddsOfSun_0 : decode cX8_oddsOfSun 0 = .ok (.aload_n 0, 1) := by decide +kernel
theorem dX8_oddsOfSun_1 : decode cX8_oddsOfSun 1 = .ok (.getfield 15, 3) := by decide +kernel
theorem dX8_oddsOfSun_4 : decode cX8_oddsOfSun 4 = .ok (.iload_n 1, 1) := by decide +kernel
theorem dX8_oddsOfSun_5 : decode cX8_oddsOfSun 5 = .ok (.invokevirtual 84, 3) := by decide +kernel
theorem dX8_oddsOfSun_8 : decode cX8_oddsOfSun 8 = .ok (.ifCond .eq 24, 3) := by decide +kernel
theorem dX8_oddsOfSun_11 : decode cX8_oddsOfSun 11 = .ok (.iload_n 2, 1) := by decide +kernel
theorem dX8_oddsOfSun_12 : decode cX8_oddsOfSun 12 = .ok (.aload_n 0, 1) := by decide +kernel
theorem dX8_oddsOfSun_13 : decode cX8_oddsOfSun 13 = .ok (.getfield 23, 3) := by decide +kernel
theorem dX8_oddsOfSun_16 : decode cX8_oddsOfSun 16 = .ok (.getfield 88, 3) := by decide +kernel
theorem dX8_oddsOfSun_19 : decode cX8_oddsOfSun 19 = .ok (.if_icmp .lt 13, 3) := by decide +kernel
theorem dX8_oddsOfSun_22 : decode cX8_oddsOfSun 22 = .ok (.aload_n 0, 1) := by decide +kernel
theorem dX8_oddsOfSun_23 : decode cX8_oddsOfSun 23 = .ok (.getfield 23, 3) := by decide +kernel
theorem dX8_oddsOfSun_26 : decode cX8_oddsOfSun 26 = .ok (.getfield 91, 3) := by decide +kernel
theorem dX8_oddsOfSun_29 : decode cX8_oddsOfSun 29 = .ok (.goto 4, 3) := by decide +kernel
theorem dX8_oddsOfSun_32 : decode cX8_oddsOfSun 32 = .ok (.iconst 0, 1) := by decide +kernel
theorem dX8_oddsOfSun_33 : decode cX8_oddsOfSun 33 = .ok (.ireturn, 1) := by decide +kernel
theorem dX8_struck_0 : decode cX8_struck 0 = .ok (.aload_n 0, 1) := by decide +kernel
theorem dX8_struck_1 : decode cX8_struck 1 = .ok (.getfield 15, 3) := by decide +kernel
theorem dX8_struck_4 : decode cX8_struck 4 = .ok (.iload_n 2, 1) := by decide +kernel
theorem dX8_struck_5 : decode cX8_struck 5 = .ok (.invokevirtual 94, 3) := by decide +kernel
theorem dX8_struck_8 : decode cX8_struck 8 = .ok (.istore 4, 2) := by decide +kernel
theorem dX8_struck_10 : decode cX8_struck 10 = .ok (.iload_n 2, 1) := by decide +kernel
theorem dX8_struck_11 : decode cX8_struck 11 = .ok (.ifCond .lt 14, 3) := by decide +kernel
theorem dX8_struck_14 : decode cX8_struck 14 = .ok (.iload_n 2, 1) := by decide +kernel
theorem dX8_struck_15 : decode cX8_struck 15 = .ok (.iload_n 1, 1) := by decide +kernel
theorem dX8_struck_16 : decode cX8_struck 16 = .ok (.if_icmp .ge 9, 3) := by decide +kernel
theorem dX8_struck_19 : decode cX8_struck 19 = .ok (.iload 4, 2) := by decide +kernel
theorem dX8_struck_21 : decode cX8_struck 21 = .ok (.iconst 1, 1) := by decide +kernel
theorem dX8_struck_22 : decode cX8_struck 22 = .ok (.if_icmp .ne 5, 3) := by decide +kernel
theorem dX8_struck_25 : decode cX8_struck 25 = .ok (.iconst 0, 1) := by decide +kernel
theorem dX8_struck_26 : decode cX8_struck 26 = .ok (.ireturn, 1) := by decide +kernel
theorem dX8_struck_27 : decode cX8_struck 27 = .ok (.iload_n 1, 1) := by decide +kernel
theorem dX8_struck_28 : decode cX8_struck 28 = .ok (.iload_n 2, 1) := by decide +kernel
theorem dX8_struck_29 : decode cX8_struck 29 = .ok (.isub, 1) := by decide +kernel
theorem dX8_struck_30 : decode cX8_struck 30 = .ok (.istore 5, 2) := by decide +kernel
theorem dX8_struck_32 : decode cX8_struck 32 = .ok (.iload 4, 2) := by decide +kernel
theorem dX8_struck_34 : decode cX8_struck 34 = .ok (.iconst 2, 1) := by decide +kernel
theorem dX8_struck_35 : decode cX8_struck 35 = .ok (.if_icmp .ne 15, 3) := by decide +kernel
theorem dX8_struck_38 : decode cX8_struck 38 = .ok (.bipush 16, 2) := by decide +kernel
theorem dX8_struck_40 : decode cX8_struck 40 = .ok (.iconst 2, 1) := by decide +kernel
theorem dX8_struck_41 : decode cX8_struck 41 = .ok (.iload 5, 2) := by decide +kernel
theorem dX8_struck_43 : decode cX8_struck 43 = .ok (.imul, 1) := by decide +kernel
theorem dX8_struck_44 : decode cX8_struck 44 = .ok (.invokestatic 61, 3) := by decide +kernel
theorem dX8_struck_47 : decode cX8_struck 47 = .ok (.goto 5, 3) := by decide +kernel
theorem dX8_struck_50 : decode cX8_struck 50 = .ok (.iload 5, 2) := by decide +kernel
theorem dX8_struck_52 : decode cX8_struck 52 = .ok (.istore 6, 2) := by decide +kernel
theorem dX8_struck_54 : decode cX8_struck 54 = .ok (.iload 5, 2) := by decide +kernel
theorem dX8_struck_56 : decode cX8_struck 56 = .ok (.aload_n 0, 1) := by decide +kernel
theorem dX8_struck_57 : decode cX8_struck 57 = .ok (.getfield 23, 3) := by decide +kernel
theorem dX8_struck_60 : decode cX8_struck 60 = .ok (.getfield 97, 3) := by decide +kernel
theorem dX8_struck_63 : decode cX8_struck 63 = .ok (.if_icmp .le 9, 3) := by decide +kernel
theorem dX8_struck_66 : decode cX8_struck 66 = .ok (.iload 6, 2) := by decide +kernel
theorem dX8_struck_68 : decode cX8_struck 68 = .ok (.iconst 2, 1) := by decide +kernel
theorem dX8_struck_69 : decode cX8_struck 69 = .ok (.idiv, 1) := by decide +kernel
theorem dX8_struck_70 : decode cX8_struck 70 = .ok (.istore 6, 2) := by decide +kernel
theorem dX8_struck_72 : decode cX8_struck 72 = .ok (.iload_n 3, 1) := by decide +kernel
theorem dX8_struck_73 : decode cX8_struck 73 = .ok (.iconst 1, 1) := by decide +kernel
theorem dX8_struck_74 : decode cX8_struck 74 = .ok (.if_icmp .ne 10, 3) := by decide +kernel
theorem dX8_struck_77 : decode cX8_struck 77 = .ok (.iload 6, 2) := by decide +kernel
theorem dX8_struck_79 : decode cX8_struck 79 = .ok (.iconst 2, 1) := by decide +kernel
theorem dX8_struck_80 : decode cX8_struck 80 = .ok (.idiv, 1) := by decide +kernel
theorem dX8_struck_81 : decode cX8_struck 81 = .ok (.goto 5, 3) := by decide +kernel
theorem dX8_struck_84 : decode cX8_struck 84 = .ok (.iload 6, 2) := by decide +kernel
theorem dX8_struck_86 : decode cX8_struck 86 = .ok (.ireturn, 1) := by decide +kernel
theorem dX8_areApart_0 : decode cX8_areApart 0 = .ok (.aload_n 0, 1) := by decide +kernel
theorem dX8_areApart_1 : decode cX8_areApart 1 = .ok (.getfield 23, 3) := by decide +kernel
theorem dX8_areApart_4 : decode cX8_areApart 4 = .ok (.getfield 54, 3) := by decide +kernel
theorem dX8_areApart_7 : decode cX8_areApart 7 = .ok (.iconst 1, 1) := by decide +kernel
theorem dX8_areApart_8 : decode cX8_areApart 8 = .ok (.if_icmp .ne 16, 3) := by decide +kernel
theorem dX8_areApart_11 : decode cX8_areApart 11 = .ok (.iload_n 1, 1) := by decide +kernel
theorem dX8_areApart_12 : decode cX8_areApart 12 = .ok (.iload_n 2, 1) := by decide +kernel
theorem dX8_areApart_13 : decode cX8_areApart 13 = .ok (.ixor, 1) := by decide +kernel
theorem dX8_areApart_14 : decode cX8_areApart 14 = .ok (.iconst 1, 1) := by decide +kernel
theorem dX8_areApart_15 : decode cX8_areApart 15 = .ok (.iand, 1) := by decide +kernel
theorem dX8_areApart_16 : decode cX8_areApart 16 = .ok (.iconst 1, 1) := by decide +kernel
theorem dX8_areApart_17 : decode cX8_areApart 17 = .ok (.if_icmp .ne 7, 3) := by decide +kernel
theorem dX8_areApart_20 : decode cX8_areApart 20 = .ok (.iconst 1, 1) := by decide +kernel
theorem dX8_areApart_21 : decode cX8_areApart 21 = .ok (.goto 4, 3) := by decide +kernel
theorem dX8_areApart_24 : decode cX8_areApart 24 = .ok (.iconst 0, 1) := by decide +kernel
theorem dX8_areApart_25 : decode cX8_areApart 25 = .ok (.ireturn, 1) := by decide +kernel
theorem dX8_byFeet_0 : decode cX8_byFeet 0 = .ok (.iload_n 2, 1) := by decide +kernel
theorem dX8_byFeet_1 : decode cX8_byFeet 1 = .ok (.aload_n 0, 1) := by decide +kernel
theorem dX8_byFeet_2 : decode cX8_byFeet 2 = .ok (.getfield 15, 3) := by decide +kernel
theorem dX8_byFeet_5 : decode cX8_byFeet 5 = .ok (.getfield 33, 3) := by decide +kernel
theorem dX8_byFeet_8 : decode cX8_byFeet 8 = .ok (.iload_n 3, 1) := by decide +kernel
theorem dX8_byFeet_9 : decode cX8_byFeet 9 = .ok (.imul, 1) := by decide +kernel
theorem dX8_byFeet_10 : decode cX8_byFeet 10 = .ok (.if_icmp .lt 5, 3) := by decide +kernel
theorem dX8_byFeet_13 : decode cX8_byFeet 13 = .ok (.lconst 0, 1) := by decide +kernel
theorem dX8_byFeet_14 : decode cX8_byFeet 14 = .ok (.lreturn, 1) := by decide +kernel
theorem dX8_byFeet_15 : decode cX8_byFeet 15 = .ok (.lconst 0, 1) := by decide +kernel
theorem dX8_byFeet_16 : decode cX8_byFeet 16 = .ok (.lstore 5, 2) := by decide +kernel
theorem dX8_byFeet_18 : decode cX8_byFeet 18 = .ok (.iconst 0, 1) := by decide +kernel
theorem dX8_byFeet_19 : decode cX8_byFeet 19 = .ok (.istore 7, 2) := by decide +kernel
theorem dX8_byFeet_21 : decode cX8_byFeet 21 = .ok (.iload 7, 2) := by decide +kernel
theorem dX8_byFeet_23 : decode cX8_byFeet 23 = .ok (.aload_n 0, 1) := by decide +kernel
theorem dX8_byFeet_24 : decode cX8_byFeet 24 = .ok (.getfield 15, 3) := by decide +kernel
theorem dX8_byFeet_27 : decode cX8_byFeet 27 = .ok (.getfield 33, 3) := by decide +kernel
theorem dX8_byFeet_30 : decode cX8_byFeet 30 = .ok (.if_icmp .ge 56, 3) := by decide +kernel
theorem dX8_byFeet_33 : decode cX8_byFeet 33 = .ok (.aload_n 0, 1) := by decide +kernel
theorem dX8_byFeet_34 : decode cX8_byFeet 34 = .ok (.getfield 15, 3) := by decide +kernel
theorem dX8_byFeet_37 : decode cX8_byFeet 37 = .ok (.iload 7, 2) := by decide +kernel
theorem dX8_byFeet_39 : decode cX8_byFeet 39 = .ok (.invokevirtual 69, 3) := by decide +kernel
theorem dX8_byFeet_42 : decode cX8_byFeet 42 = .ok (.iload_n 1, 1) := by decide +kernel
theorem dX8_byFeet_43 : decode cX8_byFeet 43 = .ok (.invokestatic 75, 3) := by decide +kernel
theorem dX8_byFeet_46 : decode cX8_byFeet 46 = .ok (.istore 8, 2) := by decide +kernel
theorem dX8_byFeet_48 : decode cX8_byFeet 48 = .ok (.iload 8, 2) := by decide +kernel
theorem dX8_byFeet_50 : decode cX8_byFeet 50 = .ok (.ifCond .le 30, 3) := by decide +kernel
theorem dX8_byFeet_53 : decode cX8_byFeet 53 = .ok (.lload 5, 2) := by decide +kernel
theorem dX8_byFeet_55 : decode cX8_byFeet 55 = .ok (.iload 8, 2) := by decide +kernel
theorem dX8_byFeet_57 : decode cX8_byFeet 57 = .ok (.aload_n 0, 1) := by decide +kernel
theorem dX8_byFeet_58 : decode cX8_byFeet 58 = .ok (.iload 7, 2) := by decide +kernel
theorem dX8_byFeet_60 : decode cX8_byFeet 60 = .ok (.aload_n 0, 1) := by decide +kernel
theorem dX8_byFeet_61 : decode cX8_byFeet 61 = .ok (.iload 7, 2) := by decide +kernel
theorem dX8_byFeet_63 : decode cX8_byFeet 63 = .ok (.iload_n 3, 1) := by decide +kernel
theorem dX8_byFeet_64 : decode cX8_byFeet 64 = .ok (.imul, 1) := by decide +kernel
theorem dX8_byFeet_65 : decode cX8_byFeet 65 = .ok (.iload_n 2, 1) := by decide +kernel
theorem dX8_byFeet_66 : decode cX8_byFeet 66 = .ok (.isub, 1) := by decide +kernel
theorem dX8_byFeet_67 : decode cX8_byFeet 67 = .ok (.invokevirtual 50, 3) := by decide +kernel
theorem dX8_byFeet_70 : decode cX8_byFeet 70 = .ok (.iload 4, 2) := by decide +kernel
theorem dX8_byFeet_72 : decode cX8_byFeet 72 = .ok (.invokevirtual 100, 3) := by decide +kernel
theorem dX8_byFeet_75 : decode cX8_byFeet 75 = .ok (.imul, 1) := by decide +kernel
theorem dX8_byFeet_76 : decode cX8_byFeet 76 = .ok (.i2l, 1) := by decide +kernel
theorem dX8_byFeet_77 : decode cX8_byFeet 77 = .ok (.ladd, 1) := by decide +kernel
theorem dX8_byFeet_78 : decode cX8_byFeet 78 = .ok (.lstore 5, 2) := by decide +kernel
theorem dX8_byFeet_80 : decode cX8_byFeet 80 = .ok (.iinc 7 1, 3) := by decide +kernel
theorem dX8_byFeet_83 : decode cX8_byFeet 83 = .ok (.goto (-62), 3) := by decide +kernel
theorem dX8_byFeet_86 : decode cX8_byFeet 86 = .ok (.lload 5, 2) := by decide +kernel
theorem dX8_byFeet_88 : decode cX8_byFeet 88 = .ok (.lreturn, 1) := by decide +kernel
theorem dX8_byWalker_0 : decode cX8_byWalker 0 = .ok (.aload_n 0, 1) := by decide +kernel
theorem dX8_byWalker_1 : decode cX8_byWalker 1 = .ok (.iload_n 1, 1) := by decide +kernel
theorem dX8_byWalker_2 : decode cX8_byWalker 2 = .ok (.iload_n 2, 1) := by decide +kernel
theorem dX8_byWalker_3 : decode cX8_byWalker 3 = .ok (.invokevirtual 104, 3) := by decide +kernel
theorem dX8_byWalker_6 : decode cX8_byWalker 6 = .ok (.ifCond .eq 5, 3) := by decide +kernel
theorem dX8_byWalker_9 : decode cX8_byWalker 9 = .ok (.lconst 0, 1) := by decide +kernel
theorem dX8_byWalker_10 : decode cX8_byWalker 10 = .ok (.lreturn, 1) := by decide +kernel
theorem dX8_byWalker_11 : decode cX8_byWalker 11 = .ok (.aload_n 0, 1) := by decide +kernel
theorem dX8_byWalker_12 : decode cX8_byWalker 12 = .ok (.aload_n 0, 1) := by decide +kernel
theorem dX8_byWalker_13 : decode cX8_byWalker 13 = .ok (.getfield 19, 3) := by decide +kernel
theorem dX8_byWalker_16 : decode cX8_byWalker 16 = .ok (.iload_n 1, 1) := by decide +kernel
theorem dX8_byWalker_17 : decode cX8_byWalker 17 = .ok (.invokevirtual 72, 3) := by decide +kernel
theorem dX8_byWalker_20 : decode cX8_byWalker 20 = .ok (.iload_n 2, 1) := by decide +kernel
theorem dX8_byWalker_21 : decode cX8_byWalker 21 = .ok (.iload_n 1, 1) := by decide +kernel
theorem dX8_byWalker_22 : decode cX8_byWalker 22 = .ok (.isub, 1) := by decide +kernel
theorem dX8_byWalker_23 : decode cX8_byWalker 23 = .ok (.aload_n 0, 1) := by decide +kernel
theorem dX8_byWalker_24 : decode cX8_byWalker 24 = .ok (.getfield 23, 3) := by decide +kernel
theorem dX8_byWalker_27 : decode cX8_byWalker 27 = .ok (.getfield 39, 3) := by decide +kernel
theorem dX8_byWalker_30 : decode cX8_byWalker 30 = .ok (.imul, 1) := by decide +kernel
theorem dX8_byWalker_31 : decode cX8_byWalker 31 = .ok (.aload_n 0, 1) := by decide +kernel
theorem dX8_byWalker_32 : decode cX8_byWalker 32 = .ok (.getfield 23, 3) := by decide +kernel
theorem dX8_byWalker_35 : decode cX8_byWalker 35 = .ok (.invokevirtual 44, 3) := by decide +kernel
theorem dX8_byWalker_38 : decode cX8_byWalker 38 = .ok (.iload_n 3, 1) := by decide +kernel
theorem dX8_byWalker_39 : decode cX8_byWalker 39 = .ok (.invokevirtual 108, 3) := by decide +kernel
theorem dX8_byWalker_42 : decode cX8_byWalker 42 = .ok (.lreturn, 1) := by decide +kernel
theorem dX8_prepareSun_0 : decode cX8_prepareSun 0 = .ok (.iconst 0, 1) := by decide +kernel
theorem dX8_prepareSun_1 : decode cX8_prepareSun 1 = .ok (.istore_n 1, 1) := by decide +kernel
theorem dX8_prepareSun_2 : decode cX8_prepareSun 2 = .ok (.iload_n 1, 1) := by decide +kernel
theorem dX8_prepareSun_3 : decode cX8_prepareSun 3 = .ok (.aload_n 0, 1) := by decide +kernel
theorem dX8_prepareSun_4 : decode cX8_prepareSun 4 = .ok (.getfield 9, 3) := by decide +kernel
theorem dX8_prepareSun_7 : decode cX8_prepareSun 7 = .ok (.arraylength, 1) := by decide +kernel
theorem dX8_prepareSun_8 : decode cX8_prepareSun 8 = .ok (.if_icmp .ge 66, 3) := by decide +kernel
theorem dX8_prepareSun_11 : decode cX8_prepareSun 11 = .ok (.iconst 0, 1) := by decide +kernel
theorem dX8_prepareSun_12 : decode cX8_prepareSun 12 = .ok (.istore_n 2, 1) := by decide +kernel
theorem dX8_prepareSun_13 : decode cX8_prepareSun 13 = .ok (.iload_n 1, 1) := by decide +kernel
theorem dX8_prepareSun_14 : decode cX8_prepareSun 14 = .ok (.iconst 2, 1) := by decide +kernel
theorem dX8_prepareSun_15 : decode cX8_prepareSun 15 = .ok (.idiv, 1) := by decide +kernel
theorem dX8_prepareSun_16 : decode cX8_prepareSun 16 = .ok (.iconst 1, 1) := by decide +kernel
theorem dX8_prepareSun_17 : decode cX8_prepareSun 17 = .ok (.iadd, 1) := by decide +kernel
theorem dX8_prepareSun_18 : decode cX8_prepareSun 18 = .ok (.istore_n 3, 1) := by decide +kernel
theorem dX8_prepareSun_19 : decode cX8_prepareSun 19 = .ok (.iload_n 3, 1) := by decide +kernel
theorem dX8_prepareSun_20 : decode cX8_prepareSun 20 = .ok (.aload_n 0, 1) := by decide +kernel
theorem dX8_prepareSun_21 : decode cX8_prepareSun 21 = .ok (.getfield 15, 3) := by decide +kernel
theorem dX8_prepareSun_24 : decode cX8_prepareSun 24 = .ok (.getfield 33, 3) := by decide +kernel
theorem dX8_prepareSun_27 : decode cX8_prepareSun 27 = .ok (.if_icmp .ge 34, 3) := by decide +kernel
theorem dX8_prepareSun_30 : decode cX8_prepareSun 30 = .ok (.aload_n 0, 1) := by decide +kernel
theorem dX8_prepareSun_31 : decode cX8_prepareSun 31 = .ok (.getfield 15, 3) := by decide +kernel
theorem dX8_prepareSun_34 : decode cX8_prepareSun 34 = .ok (.iload_n 3, 1) := by decide +kernel
theorem dX8_prepareSun_35 : decode cX8_prepareSun 35 = .ok (.invokevirtual 84, 3) := by decide +kernel
theorem dX8_prepareSun_38 : decode cX8_prepareSun 38 = .ok (.ifCond .eq 17, 3) := by decide +kernel
theorem dX8_prepareSun_41 : decode cX8_prepareSun 41 = .ok (.iload_n 2, 1) := by decide +kernel
theorem dX8_prepareSun_42 : decode cX8_prepareSun 42 = .ok (.aload_n 0, 1) := by decide +kernel
theorem dX8_prepareSun_43 : decode cX8_prepareSun 43 = .ok (.iload_n 3, 1) := by decide +kernel
theorem dX8_prepareSun_44 : decode cX8_prepareSun 44 = .ok (.iload_n 1, 1) := by decide +kernel
theorem dX8_prepareSun_45 : decode cX8_prepareSun 45 = .ok (.iconst 2, 1) := by decide +kernel
theorem dX8_prepareSun_46 : decode cX8_prepareSun 46 = .ok (.idiv, 1) := by decide +kernel
theorem dX8_prepareSun_47 : decode cX8_prepareSun 47 = .ok (.iload_n 1, 1) := by decide +kernel
theorem dX8_prepareSun_48 : decode cX8_prepareSun 48 = .ok (.iconst 2, 1) := by decide +kernel
theorem dX8_prepareSun_49 : decode cX8_prepareSun 49 = .ok (.irem, 1) := by decide +kernel
theorem dX8_prepareSun_50 : decode cX8_prepareSun 50 = .ok (.invokevirtual 100, 3) := by decide +kernel
theorem dX8_prepareSun_53 : decode cX8_prepareSun 53 = .ok (.iadd, 1) := by decide +kernel
theorem dX8_prepareSun_54 : decode cX8_prepareSun 54 = .ok (.istore_n 2, 1) := by decide +kernel
theorem dX8_prepareSun_55 : decode cX8_prepareSun 55 = .ok (.iinc 3 1, 3) := by decide +kernel
theorem dX8_prepareSun_58 : decode cX8_prepareSun 58 = .ok (.goto (-39), 3) := by decide +kernel
theorem dX8_prepareSun_61 : decode cX8_prepareSun 61 = .ok (.aload_n 0, 1) := by decide +kernel
theorem dX8_prepareSun_62 : decode cX8_prepareSun 62 = .ok (.getfield 9, 3) := by decide +kernel
theorem dX8_prepareSun_65 : decode cX8_prepareSun 65 = .ok (.iload_n 1, 1) := by decide +kernel
theorem dX8_prepareSun_66 : decode cX8_prepareSun 66 = .ok (.iload_n 2, 1) := by decide +kernel
theorem dX8_prepareSun_67 : decode cX8_prepareSun 67 = .ok (.iastore, 1) := by decide +kernel
theorem dX8_prepareSun_68 : decode cX8_prepareSun 68 = .ok (.iinc 1 1, 3) := by decide +kernel
theorem dX8_prepareSun_71 : decode cX8_prepareSun 71 = .ok (.goto (-69), 3) := by decide +kernel
theorem dX8_prepareSun_74 : decode cX8_prepareSun 74 = .ok (.return_, 1) := by decide +kernel
theorem dX8_bySun_0 : decode cX8_bySun 0 = .ok (.lconst 0, 1) := by decide +kernel
theorem dX8_bySun_1 : decode cX8_bySun 1 = .ok (.lstore 4, 2) := by decide +kernel
theorem dX8_bySun_3 : decode cX8_bySun 3 = .ok (.aload_n 0, 1) := by decide +kernel
theorem dX8_bySun_4 : decode cX8_bySun 4 = .ok (.getfield 23, 3) := by decide +kernel
theorem dX8_bySun_7 : decode cX8_bySun 7 = .ok (.invokevirtual 44, 3) := by decide +kernel
theorem dX8_bySun_10 : decode cX8_bySun 10 = .ok (.istore 6, 2) := by decide +kernel
theorem dX8_bySun_12 : decode cX8_bySun 12 = .ok (.iconst 0, 1) := by decide +kernel
theorem dX8_bySun_13 : decode cX8_bySun 13 = .ok (.istore 7, 2) := by decide +kernel
theorem dX8_bySun_15 : decode cX8_bySun 15 = .ok (.iload 7, 2) := by decide +kernel
theorem dX8_bySun_17 : decode cX8_bySun 17 = .ok (.aload_n 0, 1) := by decide +kernel
theorem dX8_bySun_18 : decode cX8_bySun 18 = .ok (.getfield 15, 3) := by decide +kernel
theorem dX8_bySun_21 : decode cX8_bySun 21 = .ok (.getfield 33, 3) := by decide +kernel
theorem dX8_bySun_24 : decode cX8_bySun 24 = .ok (.if_icmp .ge 98, 3) := by decide +kernel
theorem dX8_bySun_27 : decode cX8_bySun 27 = .ok (.aload_n 0, 1) := by decide +kernel
theorem dX8_bySun_28 : decode cX8_bySun 28 = .ok (.getfield 23, 3) := by decide +kernel
theorem dX8_bySun_31 : decode cX8_bySun 31 = .ok (.getfield 47, 3) := by decide +kernel
theorem dX8_bySun_34 : decode cX8_bySun 34 = .ok (.iload_n 1, 1) := by decide +kernel
theorem dX8_bySun_35 : decode cX8_bySun 35 = .ok (.iload_n 3, 1) := by decide +kernel
theorem dX8_bySun_36 : decode cX8_bySun 36 = .ok (.imul, 1) := by decide +kernel
theorem dX8_bySun_37 : decode cX8_bySun 37 = .ok (.iadd, 1) := by decide +kernel
theorem dX8_bySun_38 : decode cX8_bySun 38 = .ok (.iload 7, 2) := by decide +kernel
theorem dX8_bySun_40 : decode cX8_bySun 40 = .ok (.iconst 1, 1) := by decide +kernel
theorem dX8_bySun_41 : decode cX8_bySun 41 = .ok (.iadd, 1) := by decide +kernel
theorem dX8_bySun_42 : decode cX8_bySun 42 = .ok (.iload 6, 2) := by decide +kernel
theorem dX8_bySun_44 : decode cX8_bySun 44 = .ok (.imul, 1) := by decide +kernel
theorem dX8_bySun_45 : decode cX8_bySun 45 = .ok (.iadd, 1) := by decide +kernel
theorem dX8_bySun_46 : decode cX8_bySun 46 = .ok (.istore 8, 2) := by decide +kernel
theorem dX8_bySun_48 : decode cX8_bySun 48 = .ok (.iconst 0, 1) := by decide +kernel
theorem dX8_bySun_49 : decode cX8_bySun 49 = .ok (.iload 6, 2) := by decide +kernel
theorem dX8_bySun_51 : decode cX8_bySun 51 = .ok (.iload 8, 2) := by decide +kernel
theorem dX8_bySun_53 : decode cX8_bySun 53 = .ok (.aload_n 0, 1) := by decide +kernel
theorem dX8_bySun_54 : decode cX8_bySun 54 = .ok (.getfield 23, 3) := by decide +kernel
theorem dX8_bySun_57 : decode cX8_bySun 57 = .ok (.getfield 88, 3) := by decide +kernel
theorem dX8_bySun_60 : decode cX8_bySun 60 = .ok (.isub, 1) := by decide +kernel
theorem dX8_bySun_61 : decode cX8_bySun 61 = .ok (.invokestatic 61, 3) := by decide +kernel
theorem dX8_bySun_64 : decode cX8_bySun 64 = .ok (.invokestatic 66, 3) := by decide +kernel
theorem dX8_bySun_67 : decode cX8_bySun 67 = .ok (.istore 9, 2) := by decide +kernel
theorem dX8_bySun_69 : decode cX8_bySun 69 = .ok (.iconst 2, 1) := by decide +kernel
theorem dX8_bySun_70 : decode cX8_bySun 70 = .ok (.iload 7, 2) := by decide +kernel
theorem dX8_bySun_72 : decode cX8_bySun 72 = .ok (.imul, 1) := by decide +kernel
theorem dX8_bySun_73 : decode cX8_bySun 73 = .ok (.iload_n 2, 1) := by decide +kernel
theorem dX8_bySun_74 : decode cX8_bySun 74 = .ok (.iadd, 1) := by decide +kernel
theorem dX8_bySun_75 : decode cX8_bySun 75 = .ok (.istore 10, 2) := by decide +kernel
theorem dX8_bySun_77 : decode cX8_bySun 77 = .ok (.iload 10, 2) := by decide +kernel
theorem dX8_bySun_79 : decode cX8_bySun 79 = .ok (.ifCond .lt 37, 3) := by decide +kernel
theorem dX8_bySun_82 : decode cX8_bySun 82 = .ok (.iload 10, 2) := by decide +kernel
theorem dX8_bySun_84 : decode cX8_bySun 84 = .ok (.aload_n 0, 1) := by decide +kernel
theorem dX8_bySun_85 : decode cX8_bySun 85 = .ok (.getfield 9, 3) := by decide +kernel
theorem dX8_bySun_88 : decode cX8_bySun 88 = .ok (.arraylength, 1) := by decide +kernel
theorem dX8_bySun_89 : decode cX8_bySun 89 = .ok (.if_icmp .ge 27, 3) := by decide +kernel
theorem dX8_bySun_92 : decode cX8_bySun 92 = .ok (.lload 4, 2) := by decide +kernel
theorem dX8_bySun_94 : decode cX8_bySun 94 = .ok (.iload 9, 2) := by decide +kernel
theorem dX8_bySun_96 : decode cX8_bySun 96 = .ok (.aload_n 0, 1) := by decide +kernel
theorem dX8_bySun_97 : decode cX8_bySun 97 = .ok (.getfield 23, 3) := by decide +kernel
theorem dX8_bySun_100 : decode cX8_bySun 100 = .ok (.getfield 91, 3) := by decide +kernel
theorem dX8_bySun_103 : decode cX8_bySun 103 = .ok (.imul, 1) := by decide +kernel
theorem dX8_bySun_104 : decode cX8_bySun 104 = .ok (.aload_n 0, 1) := by decide +kernel
theorem dX8_bySun_105 : decode cX8_bySun 105 = .ok (.getfield 9, 3) := by decide +kernel
theorem dX8_bySun_108 : decode cX8_bySun 108 = .ok (.iload 10, 2) := by decide +kernel
theorem dX8_bySun_110 : decode cX8_bySun 110 = .ok (.iaload, 1) := by decide +kernel
theorem dX8_bySun_111 : decode cX8_bySun 111 = .ok (.imul, 1) := by decide +kernel
theorem dX8_bySun_112 : decode cX8_bySun 112 = .ok (.i2l, 1) := by decide +kernel
theorem dX8_bySun_113 : decode cX8_bySun 113 = .ok (.ladd, 1) := by decide +kernel
theorem dX8_bySun_114 : decode cX8_bySun 114 = .ok (.lstore 4, 2) := by decide +kernel
theorem dX8_bySun_116 : decode cX8_bySun 116 = .ok (.iinc 7 1, 3) := by decide +kernel
theorem dX8_bySun_119 : decode cX8_bySun 119 = .ok (.goto (-104), 3) := by decide +kernel
theorem dX8_bySun_122 : decode cX8_bySun 122 = .ok (.lload 4, 2) := by decide +kernel
theorem dX8_bySun_124 : decode cX8_bySun 124 = .ok (.lreturn, 1) := by decide +kernel
theorem dX8_toWalker_0 : decode cX8_toWalker 0 = .ok (.aload_n 0, 1) := by decide +kernel
theorem dX8_toWalker_1 : decode cX8_toWalker 1 = .ok (.iload_n 1, 1) := by decide +kernel
theorem dX8_toWalker_2 : decode cX8_toWalker 2 = .ok (.iload_n 2, 1) := by decide +kernel
theorem dX8_toWalker_3 : decode cX8_toWalker 3 = .ok (.iload_n 3, 1) := by decide +kernel
theorem dX8_toWalker_4 : decode cX8_toWalker 4 = .ok (.invokevirtual 112, 3) := by decide +kernel
theorem dX8_toWalker_7 : decode cX8_toWalker 7 = .ok (.lstore 4, 2) := by decide +kernel
theorem dX8_toWalker_9 : decode cX8_toWalker 9 = .ok (.iconst 0, 1) := by decide +kernel
theorem dX8_toWalker_10 : decode cX8_toWalker 10 = .ok (.istore 6, 2) := by decide +kernel
theorem dX8_toWalker_12 : decode cX8_toWalker 12 = .ok (.iload 6, 2) := by decide +kernel
theorem dX8_toWalker_14 : decode cX8_toWalker 14 = .ok (.iload_n 1, 1) := by decide +kernel
theorem dX8_toWalker_15 : decode cX8_toWalker 15 = .ok (.if_icmp .ge 51, 3) := by decide +kernel
theorem dX8_toWalker_18 : decode cX8_toWalker 18 = .ok (.aload_n 0, 1) := by decide +kernel
theorem dX8_toWalker_19 : decode cX8_toWalker 19 = .ok (.iload 6, 2) := by decide +kernel
theorem dX8_toWalker_21 : decode cX8_toWalker 21 = .ok (.iload_n 1, 1) := by decide +kernel
theorem dX8_toWalker_22 : decode cX8_toWalker 22 = .ok (.invokevirtual 104, 3) := by decide +kernel
theorem dX8_toWalker_25 : decode cX8_toWalker 25 = .ok (.ifCond .ne 35, 3) := by decide +kernel
theorem dX8_toWalker_28 : decode cX8_toWalker 28 = .ok (.lload 4, 2) := by decide +kernel
theorem dX8_toWalker_30 : decode cX8_toWalker 30 = .ok (.aload_n 0, 1) := by decide +kernel
theorem dX8_toWalker_31 : decode cX8_toWalker 31 = .ok (.aload_n 0, 1) := by decide +kernel
theorem dX8_toWalker_32 : decode cX8_toWalker 32 = .ok (.getfield 19, 3) := by decide +kernel
theorem dX8_toWalker_35 : decode cX8_toWalker 35 = .ok (.iload 6, 2) := by decide +kernel
theorem dX8_toWalker_37 : decode cX8_toWalker 37 = .ok (.invokevirtual 72, 3) := by decide +kernel
theorem dX8_toWalker_40 : decode cX8_toWalker 40 = .ok (.iload_n 1, 1) := by decide +kernel
theorem dX8_toWalker_41 : decode cX8_toWalker 41 = .ok (.iload 6, 2) := by decide +kernel
theorem dX8_toWalker_43 : decode cX8_toWalker 43 = .ok (.isub, 1) := by decide +kernel
theorem dX8_toWalker_44 : decode cX8_toWalker 44 = .ok (.iload_n 3, 1) := by decide +kernel
theorem dX8_toWalker_45 : decode cX8_toWalker 45 = .ok (.imul, 1) := by decide +kernel
theorem dX8_toWalker_46 : decode cX8_toWalker 46 = .ok (.aload_n 0, 1) := by decide +kernel
theorem dX8_toWalker_47 : decode cX8_toWalker 47 = .ok (.getfield 23, 3) := by decide +kernel
theorem dX8_toWalker_50 : decode cX8_toWalker 50 = .ok (.invokevirtual 44, 3) := by decide +kernel
theorem dX8_toWalker_53 : decode cX8_toWalker 53 = .ok (.iload_n 2, 1) := by decide +kernel
theorem dX8_toWalker_54 : decode cX8_toWalker 54 = .ok (.invokevirtual 108, 3) := by decide +kernel
theorem dX8_toWalker_57 : decode cX8_toWalker 57 = .ok (.ladd, 1) := by decide +kernel
theorem dX8_toWalker_58 : decode cX8_toWalker 58 = .ok (.lstore 4, 2) := by decide +kernel
theorem dX8_toWalker_60 : decode cX8_toWalker 60 = .ok (.iinc 6 1, 3) := by decide +kernel
theorem dX8_toWalker_63 : decode cX8_toWalker 63 = .ok (.goto (-51), 3) := by decide +kernel
theorem dX8_toWalker_66 : decode cX8_toWalker 66 = .ok (.lload 4, 2) := by decide +kernel
theorem dX8_toWalker_68 : decode cX8_toWalker 68 = .ok (.lreturn, 1) := by decide +kernel
theorem dX8_together_0 : decode cX8_together 0 = .ok (.lconst 0, 1) := by decide +kernel
theorem dX8_together_1 : decode cX8_together 1 = .ok (.lstore_n 2, 1) := by decide +kernel
theorem dX8_together_2 : decode cX8_together 2 = .ok (.iconst 0, 1) := by decide +kernel
theorem dX8_together_3 : decode cX8_together 3 = .ok (.istore 4, 2) := by decide +kernel
theorem dX8_together_5 : decode cX8_together 5 = .ok (.iload 4, 2) := by decide +kernel
theorem dX8_together_7 : decode cX8_together 7 = .ok (.aload_n 0, 1) := by decide +kernel
theorem dX8_together_8 : decode cX8_together 8 = .ok (.getfield 19, 3) := by decide +kernel
theorem dX8_together_11 : decode cX8_together 11 = .ok (.invokevirtual 27, 3) := by decide +kernel
theorem dX8_together_14 : decode cX8_together 14 = .ok (.if_icmp .ge 28, 3) := by decide +kernel
theorem dX8_together_17 : decode cX8_together 17 = .ok (.lload_n 2, 1) := by decide +kernel
theorem dX8_together_18 : decode cX8_together 18 = .ok (.aload_n 0, 1) := by decide +kernel
theorem dX8_together_19 : decode cX8_together 19 = .ok (.iload 4, 2) := by decide +kernel
theorem dX8_together_21 : decode cX8_together 21 = .ok (.aload_n 0, 1) := by decide +kernel
theorem dX8_together_22 : decode cX8_together 22 = .ok (.getfield 19, 3) := by decide +kernel
theorem dX8_together_25 : decode cX8_together 25 = .ok (.iload 4, 2) := by decide +kernel
theorem dX8_together_27 : decode cX8_together 27 = .ok (.invokevirtual 116, 3) := by decide +kernel
theorem dX8_together_30 : decode cX8_together 30 = .ok (.iload_n 1, 1) := by decide +kernel
theorem dX8_together_31 : decode cX8_together 31 = .ok (.invokevirtual 119, 3) := by decide +kernel
theorem dX8_together_34 : decode cX8_together 34 = .ok (.ladd, 1) := by decide +kernel
theorem dX8_together_35 : decode cX8_together 35 = .ok (.lstore_n 2, 1) := by decide +kernel
theorem dX8_together_36 : decode cX8_together 36 = .ok (.iinc 4 1, 3) := by decide +kernel
theorem dX8_together_39 : decode cX8_together 39 = .ok (.goto (-34), 3) := by decide +kernel
theorem dX8_together_42 : decode cX8_together 42 = .ok (.lload_n 2, 1) := by decide +kernel
theorem dX8_together_43 : decode cX8_together 43 = .ok (.lreturn, 1) := by decide +kernel
theorem dX9_init_0 : decode cX9_init 0 = .ok (.aload_n 0, 1) := by decide +kernel
theorem dX9_init_1 : decode cX9_init 1 = .ok (.invokespecial 3, 3) := by decide +kernel
theorem dX9_init_4 : decode cX9_init 4 = .ok (.aload_n 0, 1) := by decide +kernel
theorem dX9_init_5 : decode cX9_init 5 = .ok (.bipush 8, 2) := by decide +kernel
theorem dX9_init_7 : decode cX9_init 7 = .ok (.newarray .int, 2) := by decide +kernel
theorem dX9_init_9 : decode cX9_init 9 = .ok (.putfield 9, 3) := by decide +kernel
theorem dX9_init_12 : decode cX9_init 12 = .ok (.aload_n 0, 1) := by decide +kernel
theorem dX9_init_13 : decode cX9_init 13 = .ok (.bipush 8, 2) := by decide +kernel
theorem dX9_init_15 : decode cX9_init 15 = .ok (.newarray .int, 2) := by decide +kernel
theorem dX9_init_17 : decode cX9_init 17 = .ok (.putfield 15, 3) := by decide +kernel
theorem dX9_init_20 : decode cX9_init 20 = .ok (.aload_n 0, 1) := by decide +kernel
theorem dX9_init_21 : decode cX9_init 21 = .ok (.bipush 8, 2) := by decide +kernel
theorem dX9_init_23 : decode cX9_init 23 = .ok (.newarray .int, 2) := by decide +kernel
theorem dX9_init_25 : decode cX9_init 25 = .ok (.putfield 18, 3) := by decide +kernel
theorem dX9_init_28 : decode cX9_init 28 = .ok (.return_, 1) := by decide +kernel
theorem dX9_fits_0 : decode cX9_fits 0 = .ok (.iload_n 0, 1) := by decide +kernel
theorem dX9_fits_1 : decode cX9_fits 1 = .ok (.iconst 0, 1) := by decide +kernel
theorem dX9_fits_2 : decode cX9_fits 2 = .ok (.iconst 5, 1) := by decide +kernel
theorem dX9_fits_3 : decode cX9_fits 3 = .ok (.invokestatic 21, 3) := by decide +kernel
theorem dX9_fits_6 : decode cX9_fits 6 = .ok (.ifCond .eq 26, 3) := by decide +kernel
theorem dX9_fits_9 : decode cX9_fits 9 = .ok (.iload_n 1, 1) := by decide +kernel
theorem dX9_fits_10 : decode cX9_fits 10 = .ok (.iconst 0, 1) := by decide +kernel
theorem dX9_fits_11 : decode cX9_fits 11 = .ok (.bipush 15, 2) := by decide +kernel
theorem dX9_fits_13 : decode cX9_fits 13 = .ok (.invokestatic 21, 3) := by decide +kernel
theorem dX9_fits_16 : decode cX9_fits 16 = .ok (.ifCond .eq 16, 3) := by decide +kernel
theorem dX9_fits_19 : decode cX9_fits 19 = .ok (.iload_n 2, 1) := by decide +kernel
theorem dX9_fits_20 : decode cX9_fits 20 = .ok (.iconst 0, 1) := by decide +kernel
theorem dX9_fits_21 : decode cX9_fits 21 = .ok (.iconst 1, 1) := by decide +kernel
theorem dX9_fits_22 : decode cX9_fits 22 = .ok (.invokestatic 21, 3) := by decide +kernel
theorem dX9_fits_25 : decode cX9_fits 25 = .ok (.ifCond .eq 7, 3) := by decide +kernel
theorem dX9_fits_28 : decode cX9_fits 28 = .ok (.iconst 1, 1) := by decide +kernel
theorem dX9_fits_29 : decode cX9_fits 29 = .ok (.goto 4, 3) := by decide +kernel
theorem dX9_fits_32 : decode cX9_fits 32 = .ok (.iconst 0, 1) := by decide +kernel
theorem dX9_fits_33 : decode cX9_fits 33 = .ok (.ireturn, 1) := by decide +kernel
theorem dX9_size_0 : decode cX9_size 0 = .ok (.aload_n 0, 1) := by decide +kernel
theorem dX9_size_1 : decode cX9_size 1 = .ok (.getfield 25, 3) := by decide +kernel
theorem dX9_size_4 : decode cX9_size 4 = .ok (.ireturn, 1) := by decide +kernel
theorem dX9_isFull_0 : decode cX9_isFull 0 = .ok (.aload_n 0, 1) := by decide +kernel
theorem dX9_isFull_1 : decode cX9_isFull 1 = .ok (.getfield 25, 3) := by decide +kernel
theorem dX9_isFull_4 : decode cX9_isFull 4 = .ok (.bipush 8, 2) := by decide +kernel
theorem dX9_isFull_6 : decode cX9_isFull 6 = .ok (.if_icmp .lt 7, 3) := by decide +kernel
theorem dX9_isFull_9 : decode cX9_isFull 9 = .ok (.iconst 1, 1) := by decide +kernel
theorem dX9_isFull_10 : decode cX9_isFull 10 = .ok (.goto 4, 3) := by decide +kernel
theorem dX9_isFull_13 : decode cX9_isFull 13 = .ok (.iconst 0, 1) := by decide +kernel
theorem dX9_isFull_14 : decode cX9_isFull 14 = .ok (.ireturn, 1) := by decide +kernel
theorem dX9_clear_0 : decode cX9_clear 0 = .ok (.aload_n 0, 1) := by decide +kernel
theorem dX9_clear_1 : decode cX9_clear 1 = .ok (.iconst 0, 1) := by decide +kernel
theorem dX9_clear_2 : decode cX9_clear 2 = .ok (.putfield 25, 3) := by decide +kernel
theorem dX9_clear_5 : decode cX9_clear 5 = .ok (.return_, 1) := by decide +kernel
theorem dX9_add_0 : decode cX9_add 0 = .ok (.aload_n 0, 1) := by decide +kernel
theorem dX9_add_1 : decode cX9_add 1 = .ok (.getfield 25, 3) := by decide +kernel
theorem dX9_add_4 : decode cX9_add 4 = .ok (.ifCond .lt 79, 3) := by decide +kernel
theorem dX9_add_7 : decode cX9_add 7 = .ok (.aload_n 0, 1) := by decide +kernel
theorem dX9_add_8 : decode cX9_add 8 = .ok (.getfield 25, 3) := by decide +kernel
theorem dX9_add_11 : decode cX9_add 11 = .ok (.aload_n 0, 1) := by decide +kernel
theorem dX9_add_12 : decode cX9_add 12 = .ok (.getfield 9, 3) := by decide +kernel
theorem dX9_add_15 : decode cX9_add 15 = .ok (.arraylength, 1) := by decide +kernel
theorem dX9_add_16 : decode cX9_add 16 = .ok (.if_icmp .ge 67, 3) := by decide +kernel
theorem dX9_add_19 : decode cX9_add 19 = .ok (.aload_n 0, 1) := by decide +kernel
theorem dX9_add_20 : decode cX9_add 20 = .ok (.getfield 25, 3) := by decide +kernel
theorem dX9_add_23 : decode cX9_add 23 = .ok (.aload_n 0, 1) := by decide +kernel
theorem dX9_add_24 : decode cX9_add 24 = .ok (.getfield 15, 3) := by decide +kernel
theorem dX9_add_27 : decode cX9_add 27 = .ok (.arraylength, 1) := by decide +kernel
theorem dX9_add_28 : decode cX9_add 28 = .ok (.if_icmp .ge 55, 3) := by decide +kernel
theorem dX9_add_31 : decode cX9_add 31 = .ok (.aload_n 0, 1) := by decide +kernel
theorem dX9_add_32 : decode cX9_add 32 = .ok (.getfield 25, 3) := by decide +kernel
theorem dX9_add_35 : decode cX9_add 35 = .ok (.aload_n 0, 1) := by decide +kernel
theorem dX9_add_36 : decode cX9_add 36 = .ok (.getfield 18, 3) := by decide +kernel
theorem dX9_add_39 : decode cX9_add 39 = .ok (.arraylength, 1) := by decide +kernel
theorem dX9_add_40 : decode cX9_add 40 = .ok (.if_icmp .ge 43, 3) := by decide +kernel
theorem dX9_add_43 : decode cX9_add 43 = .ok (.aload_n 0, 1) := by decide +kernel
theorem dX9_add_44 : decode cX9_add 44 = .ok (.getfield 9, 3) := by decide +kernel
theorem dX9_add_47 : decode cX9_add 47 = .ok (.aload_n 0, 1) := by decide +kernel
theorem dX9_add_48 : decode cX9_add 48 = .ok (.getfield 25, 3) := by decide +kernel
theorem dX9_add_51 : decode cX9_add 51 = .ok (.iload_n 1, 1) := by decide +kernel
theorem dX9_add_52 : decode cX9_add 52 = .ok (.iastore, 1) := by decide +kernel
theorem dX9_add_53 : decode cX9_add 53 = .ok (.aload_n 0, 1) := by decide +kernel
theorem dX9_add_54 : decode cX9_add 54 = .ok (.getfield 15, 3) := by decide +kernel
theorem dX9_add_57 : decode cX9_add 57 = .ok (.aload_n 0, 1) := by decide +kernel
theorem dX9_add_58 : decode cX9_add 58 = .ok (.getfield 25, 3) := by decide +kernel
theorem dX9_add_61 : decode cX9_add 61 = .ok (.iload_n 2, 1) := by decide +kernel
theorem dX9_add_62 : decode cX9_add 62 = .ok (.iastore, 1) := by decide +kernel
theorem dX9_add_63 : decode cX9_add 63 = .ok (.aload_n 0, 1) := by decide +kernel
theorem dX9_add_64 : decode cX9_add 64 = .ok (.getfield 18, 3) := by decide +kernel
theorem dX9_add_67 : decode cX9_add 67 = .ok (.aload_n 0, 1) := by decide +kernel
theorem dX9_add_68 : decode cX9_add 68 = .ok (.getfield 25, 3) := by decide +kernel
theorem dX9_add_71 : decode cX9_add 71 = .ok (.iload_n 3, 1) := by decide +kernel
theorem dX9_add_72 : decode cX9_add 72 = .ok (.iastore, 1) := by decide +kernel
theorem dX9_add_73 : decode cX9_add 73 = .ok (.aload_n 0, 1) := by decide +kernel
theorem dX9_add_74 : decode cX9_add 74 = .ok (.dup, 1) := by decide +kernel
theorem dX9_add_75 : decode cX9_add 75 = .ok (.getfield 25, 3) := by decide +kernel
theorem dX9_add_78 : decode cX9_add 78 = .ok (.iconst 1, 1) := by decide +kernel
theorem dX9_add_79 : decode cX9_add 79 = .ok (.iadd, 1) := by decide +kernel
theorem dX9_add_80 : decode cX9_add 80 = .ok (.putfield 25, 3) := by decide +kernel
theorem dX9_add_83 : decode cX9_add 83 = .ok (.return_, 1) := by decide +kernel
theorem dX9_likeliest_0 : decode cX9_likeliest 0 = .ok (.iconst (-1), 1) := by decide +kernel
theorem dX9_likeliest_1 : decode cX9_likeliest 1 = .ok (.istore_n 3, 1) := by decide +kernel
theorem dX9_likeliest_2 : decode cX9_likeliest 2 = .ok (.lconst 0, 1) := by decide +kernel
theorem dX9_likeliest_3 : decode cX9_likeliest 3 = .ok (.lstore 4, 2) := by decide +kernel
theorem dX9_likeliest_5 : decode cX9_likeliest 5 = .ok (.iconst 1, 1) := by decide +kernel
theorem dX9_likeliest_6 : decode cX9_likeliest 6 = .ok (.istore 6, 2) := by decide +kernel
theorem dX9_likeliest_8 : decode cX9_likeliest 8 = .ok (.iload 6, 2) := by decide +kernel
theorem dX9_likeliest_10 : decode cX9_likeliest 10 = .ok (.bipush 9, 2) := by decide +kernel
theorem dX9_likeliest_12 : decode cX9_likeliest 12 = .ok (.if_icmp .gt 34, 3) := by decide +kernel
theorem dX9_likeliest_15 : decode cX9_likeliest 15 = .ok (.aload_n 0, 1) := by decide +kernel
theorem dX9_likeliest_16 : decode cX9_likeliest 16 = .ok (.iload 6, 2) := by decide +kernel
theorem dX9_likeliest_18 : decode cX9_likeliest 18 = .ok (.iload_n 1, 1) := by decide +kernel
theorem dX9_likeliest_19 : decode cX9_likeliest 19 = .ok (.aload_n 2, 1) := by decide +kernel
theorem dX9_likeliest_20 : decode cX9_likeliest 20 = .ok (.invokevirtual 29, 3) := by decide +kernel
theorem dX9_likeliest_23 : decode cX9_likeliest 23 = .ok (.lstore 7, 2) := by decide +kernel
theorem dX9_likeliest_25 : decode cX9_likeliest 25 = .ok (.lload 7, 2) := by decide +kernel
theorem dX9_likeliest_27 : decode cX9_likeliest 27 = .ok (.lload 4, 2) := by decide +kernel
theorem dX9_likeliest_29 : decode cX9_likeliest 29 = .ok (.lcmp, 1) := by decide +kernel
theorem dX9_likeliest_30 : decode cX9_likeliest 30 = .ok (.ifCond .le 10, 3) := by decide +kernel
theorem dX9_likeliest_33 : decode cX9_likeliest 33 = .ok (.lload 7, 2) := by decide +kernel
theorem dX9_likeliest_35 : decode cX9_likeliest 35 = .ok (.lstore 4, 2) := by decide +kernel
theorem dX9_likeliest_37 : decode cX9_likeliest 37 = .ok (.iload 6, 2) := by decide +kernel
theorem dX9_likeliest_39 : decode cX9_likeliest 39 = .ok (.istore_n 3, 1) := by decide +kernel
theorem dX9_likeliest_40 : decode cX9_likeliest 40 = .ok (.iinc 6 1, 3) := by decide +kernel
theorem dX9_likeliest_43 : decode cX9_likeliest 43 = .ok (.goto (-35), 3) := by decide +kernel
theorem dX9_likeliest_46 : decode cX9_likeliest 46 = .ok (.iload_n 3, 1) := by decide +kernel
theorem dX9_likeliest_47 : decode cX9_likeliest 47 = .ok (.ireturn, 1) := by decide +kernel
theorem dX9_likelihood_0 : decode cX9_likelihood 0 = .ok (.lconst 1, 1) := by decide +kernel
theorem dX9_likelihood_1 : decode cX9_likelihood 1 = .ok (.lstore 4, 2) := by decide +kernel
theorem dX9_likelihood_3 : decode cX9_likelihood 3 = .ok (.iconst 0, 1) := by decide +kernel
theorem dX9_likelihood_4 : decode cX9_likelihood 4 = .ok (.istore 6, 2) := by decide +kernel
theorem dX9_likelihood_6 : decode cX9_likelihood 6 = .ok (.iload 6, 2) := by decide +kernel
theorem dX9_likelihood_8 : decode cX9_likelihood 8 = .ok (.aload_n 0, 1) := by decide +kernel
theorem dX9_likelihood_9 : decode cX9_likelihood 9 = .ok (.getfield 25, 3) := by decide +kernel
theorem dX9_likelihood_12 : decode cX9_likelihood 12 = .ok (.if_icmp .ge 109, 3) := by decide +kernel
theorem dX9_likelihood_15 : decode cX9_likelihood 15 = .ok (.iload 6, 2) := by decide +kernel
theorem dX9_likelihood_17 : decode cX9_likelihood 17 = .ok (.aload_n 0, 1) := by decide +kernel
theorem dX9_likelihood_18 : decode cX9_likelihood 18 = .ok (.getfield 9, 3) := by decide +kernel
theorem dX9_likelihood_21 : decode cX9_likelihood 21 = .ok (.arraylength, 1) := by decide +kernel
theorem dX9_likelihood_22 : decode cX9_likelihood 22 = .ok (.if_icmp .ge 99, 3) := by decide +kernel
theorem dX9_likelihood_25 : decode cX9_likelihood 25 = .ok (.iload 6, 2) := by decide +kernel
theorem dX9_likelihood_27 : decode cX9_likelihood 27 = .ok (.aload_n 0, 1) := by decide +kernel
theorem dX9_likelihood_28 : decode cX9_likelihood 28 = .ok (.getfield 15, 3) := by decide +kernel
theorem dX9_likelihood_31 : decode cX9_likelihood 31 = .ok (.arraylength, 1) := by decide +kernel
theorem dX9_likelihood_32 : decode cX9_likelihood 32 = .ok (.if_icmp .ge 89, 3) := by decide +kernel
theorem dX9_likelihood_35 : decode cX9_likelihood 35 = .ok (.iload 6, 2) := by decide +kernel
theorem dX9_likelihood_37 : decode cX9_likelihood 37 = .ok (.aload_n 0, 1) := by decide +kernel
theorem dX9_likelihood_38 : decode cX9_likelihood 38 = .ok (.getfield 18, 3) := by decide +kernel
theorem dX9_likelihood_41 : decode cX9_likelihood 41 = .ok (.arraylength, 1) := by decide +kernel
theorem dX9_likelihood_42 : decode cX9_likelihood 42 = .ok (.if_icmp .ge 79, 3) := by decide +kernel
theorem dX9_likelihood_45 : decode cX9_likelihood 45 = .ok (.aload_n 0, 1) := by decide +kernel
theorem dX9_likelihood_46 : decode cX9_likelihood 46 = .ok (.getfield 15, 3) := by decide +kernel
theorem dX9_likelihood_49 : decode cX9_likelihood 49 = .ok (.iload 6, 2) := by decide +kernel
theorem dX9_likelihood_51 : decode cX9_likelihood 51 = .ok (.iaload, 1) := by decide +kernel
theorem dX9_likelihood_52 : decode cX9_likelihood 52 = .ok (.iload_n 2, 1) := by decide +kernel
theorem dX9_likelihood_53 : decode cX9_likelihood 53 = .ok (.if_icmp .ne 62, 3) := by decide +kernel
theorem dX9_likelihood_56 : decode cX9_likelihood 56 = .ok (.aload_n 3, 1) := by decide +kernel
theorem dX9_likelihood_57 : decode cX9_likelihood 57 = .ok (.aload_n 0, 1) := by decide +kernel
theorem dX9_likelihood_58 : decode cX9_likelihood 58 = .ok (.getfield 9, 3) := by decide +kernel
theorem dX9_likelihood_61 : decode cX9_likelihood 61 = .ok (.iload 6, 2) := by decide +kernel
theorem dX9_likelihood_63 : decode cX9_likelihood 63 = .ok (.iaload, 1) := by decide +kernel
theorem dX9_likelihood_64 : decode cX9_likelihood 64 = .ok (.invokevirtual 33, 3) := by decide +kernel
theorem dX9_likelihood_67 : decode cX9_likelihood 67 = .ok (.ifCond .eq 48, 3) := by decide +kernel
theorem dX9_likelihood_70 : decode cX9_likelihood 70 = .ok (.iload_n 1, 1) := by decide +kernel
theorem dX9_likelihood_71 : decode cX9_likelihood 71 = .ok (.aload_n 3, 1) := by decide +kernel
theorem dX9_likelihood_72 : decode cX9_likelihood 72 = .ok (.aload_n 0, 1) := by decide +kernel
theorem dX9_likelihood_73 : decode cX9_likelihood 73 = .ok (.getfield 9, 3) := by decide +kernel
theorem dX9_likelihood_76 : decode cX9_likelihood 76 = .ok (.iload 6, 2) := by decide +kernel
theorem dX9_likelihood_78 : decode cX9_likelihood 78 = .ok (.iaload, 1) := by decide +kernel
theorem dX9_likelihood_79 : decode cX9_likelihood 79 = .ok (.invokevirtual 39, 3) := by decide +kernel
theorem dX9_likelihood_82 : decode cX9_likelihood 82 = .ok (.invokestatic 43, 3) := by decide +kernel
theorem dX9_likelihood_85 : decode cX9_likelihood 85 = .ok (.istore 7, 2) := by decide +kernel
theorem dX9_likelihood_87 : decode cX9_likelihood 87 = .ok (.lload 4, 2) := by decide +kernel
theorem dX9_likelihood_89 : decode cX9_likelihood 89 = .ok (.aload_n 0, 1) := by decide +kernel
theorem dX9_likelihood_90 : decode cX9_likelihood 90 = .ok (.getfield 18, 3) := by decide +kernel
theorem dX9_likelihood_93 : decode cX9_likelihood 93 = .ok (.iload 6, 2) := by decide +kernel
theorem dX9_likelihood_95 : decode cX9_likelihood 95 = .ok (.iaload, 1) := by decide +kernel
theorem dX9_likelihood_96 : decode cX9_likelihood 96 = .ok (.iconst 1, 1) := by decide +kernel
theorem dX9_likelihood_97 : decode cX9_likelihood 97 = .ok (.if_icmp .ne 9, 3) := by decide +kernel
theorem dX9_likelihood_100 : decode cX9_likelihood 100 = .ok (.iload 7, 2) := by decide +kernel
theorem dX9_likelihood_102 : decode cX9_likelihood 102 = .ok (.i2l, 1) := by decide +kernel
theorem dX9_likelihood_103 : decode cX9_likelihood 103 = .ok (.goto 9, 3) := by decide +kernel
theorem dX9_likelihood_106 : decode cX9_likelihood 106 = .ok (.bipush 16, 2) := by decide +kernel
theorem dX9_likelihood_108 : decode cX9_likelihood 108 = .ok (.iload 7, 2) := by decide +kernel
theorem dX9_likelihood_110 : decode cX9_likelihood 110 = .ok (.isub, 1) := by decide +kernel
theorem dX9_likelihood_111 : decode cX9_likelihood 111 = .ok (.i2l, 1) := by decide +kernel
theorem dX9_likelihood_112 : decode cX9_likelihood 112 = .ok (.lmul, 1) := by decide +kernel
theorem dX9_likelihood_113 : decode cX9_likelihood 113 = .ok (.lstore 4, 2) := by decide +kernel
theorem dX9_likelihood_115 : decode cX9_likelihood 115 = .ok (.iinc 6 1, 3) := by decide +kernel
theorem dX9_likelihood_118 : decode cX9_likelihood 118 = .ok (.goto (-112), 3) := by decide +kernel
theorem dX9_likelihood_121 : decode cX9_likelihood 121 = .ok (.lload 4, 2) := by decide +kernel
theorem dX9_likelihood_123 : decode cX9_likelihood 123 = .ok (.lreturn, 1) := by decide +kernel
theorem dX10_init_0 : decode cX10_init 0 = .ok (.aload_n 0, 1) := by decide +kernel
theorem dX10_init_1 : decode cX10_init 1 = .ok (.invokespecial 3, 3) := by decide +kernel
theorem dX10_init_4 : decode cX10_init 4 = .ok (.aload_n 0, 1) := by decide +kernel
theorem dX10_init_5 : decode cX10_init 5 = .ok (.bipush 32, 2) := by decide +kernel
theorem dX10_init_7 : decode cX10_init 7 = .ok (.newarray .byte, 2) := by decide +kernel
theorem dX10_init_9 : decode cX10_init 9 = .ok (.putfield 9, 3) := by decide +kernel
theorem dX10_init_12 : decode cX10_init 12 = .ok (.aload_n 0, 1) := by decide +kernel
theorem dX10_init_13 : decode cX10_init 13 = .ok (.iload_n 1, 1) := by decide +kernel
theorem dX10_init_14 : decode cX10_init 14 = .ok (.bipush 32, 2) := by decide +kernel
theorem dX10_init_16 : decode cX10_init 16 = .ok (.invokestatic 15, 3) := by decide +kernel
theorem dX10_init_19 : decode cX10_init 19 = .ok (.putfield 21, 3) := by decide +kernel
theorem dX10_init_22 : decode cX10_init 22 = .ok (.return_, 1) := by decide +kernel
theorem dX10_length_0 : decode cX10_length 0 = .ok (.aload_n 0, 1) := by decide +kernel
theorem dX10_length_1 : decode cX10_length 1 = .ok (.getfield 25, 3) := by decide +kernel
theorem dX10_length_4 : decode cX10_length 4 = .ok (.ireturn, 1) := by decide +kernel
theorem dX10_isFull_0 : decode cX10_isFull 0 = .ok (.aload_n 0, 1) := by decide +kernel
theorem dX10_isFull_1 : decode cX10_isFull 1 = .ok (.getfield 25, 3) := by decide +kernel
theorem dX10_isFull_4 : decode cX10_isFull 4 = .ok (.aload_n 0, 1) := by decide +kernel
theorem dX10_isFull_5 : decode cX10_isFull 5 = .ok (.getfield 21, 3) := by decide +kernel
theorem dX10_isFull_8 : decode cX10_isFull 8 = .ok (.if_icmp .lt 7, 3) := by decide +kernel
theorem dX10_isFull_11 : decode cX10_isFull 11 = .ok (.iconst 1, 1) := by decide +kernel
theorem dX10_isFull_12 : decode cX10_isFull 12 = .ok (.goto 4, 3) := by decide +kernel
theorem dX10_isFull_15 : decode cX10_isFull 15 = .ok (.iconst 0, 1) := by decide +kernel
theorem dX10_isFull_16 : decode cX10_isFull 16 = .ok (.ireturn, 1) := by decide +kernel
theorem dX10_append_0 : decode cX10_append 0 = .ok (.aload_n 0, 1) := by decide +kernel
theorem dX10_append_1 : decode cX10_append 1 = .ok (.getfield 25, 3) := by decide +kernel
theorem dX10_append_4 : decode cX10_append 4 = .ok (.ifCond .lt 47, 3) := by decide +kernel
theorem dX10_append_7 : decode cX10_append 7 = .ok (.aload_n 0, 1) := by decide +kernel
theorem dX10_append_8 : decode cX10_append 8 = .ok (.getfield 25, 3) := by decide +kernel
theorem dX10_append_11 : decode cX10_append 11 = .ok (.aload_n 0, 1) := by decide +kernel
theorem dX10_append_12 : decode cX10_append 12 = .ok (.getfield 21, 3) := by decide +kernel
theorem dX10_append_15 : decode cX10_append 15 = .ok (.if_icmp .ge 36, 3) := by decide +kernel
theorem dX10_append_18 : decode cX10_append 18 = .ok (.aload_n 0, 1) := by decide +kernel
theorem dX10_append_19 : decode cX10_append 19 = .ok (.getfield 25, 3) := by decide +kernel
theorem dX10_append_22 : decode cX10_append 22 = .ok (.aload_n 0, 1) := by decide +kernel
theorem dX10_append_23 : decode cX10_append 23 = .ok (.getfield 9, 3) := by decide +kernel
theorem dX10_append_26 : decode cX10_append 26 = .ok (.arraylength, 1) := by decide +kernel
theorem dX10_append_27 : decode cX10_append 27 = .ok (.if_icmp .ge 24, 3) := by decide +kernel
theorem dX10_append_30 : decode cX10_append 30 = .ok (.aload_n 0, 1) := by decide +kernel
theorem dX10_append_31 : decode cX10_append 31 = .ok (.getfield 9, 3) := by decide +kernel
theorem dX10_append_34 : decode cX10_append 34 = .ok (.aload_n 0, 1) := by decide +kernel
theorem dX10_append_35 : decode cX10_append 35 = .ok (.getfield 25, 3) := by decide +kernel
theorem dX10_append_38 : decode cX10_append 38 = .ok (.iload_n 1, 1) := by decide +kernel
theorem dX10_append_39 : decode cX10_append 39 = .ok (.i2b, 1) := by decide +kernel
theorem dX10_append_40 : decode cX10_append 40 = .ok (.bastore, 1) := by decide +kernel
theorem dX10_append_41 : decode cX10_append 41 = .ok (.aload_n 0, 1) := by decide +kernel
theorem dX10_append_42 : decode cX10_append 42 = .ok (.dup, 1) := by decide +kernel
theorem dX10_append_43 : decode cX10_append 43 = .ok (.getfield 25, 3) := by decide +kernel
theorem dX10_append_46 : decode cX10_append 46 = .ok (.iconst 1, 1) := by decide +kernel
theorem dX10_append_47 : decode cX10_append 47 = .ok (.iadd, 1) := by decide +kernel
theorem dX10_append_48 : decode cX10_append 48 = .ok (.putfield 25, 3) := by decide +kernel
theorem dX10_append_51 : decode cX10_append 51 = .ok (.return_, 1) := by decide +kernel
theorem dX10_shorten_0 : decode cX10_shorten 0 = .ok (.aload_n 0, 1) := by decide +kernel
theorem dX10_shorten_1 : decode cX10_shorten 1 = .ok (.iconst 0, 1) := by decide +kernel
theorem dX10_shorten_2 : decode cX10_shorten 2 = .ok (.aload_n 0, 1) := by decide +kernel
theorem dX10_shorten_3 : decode cX10_shorten 3 = .ok (.getfield 25, 3) := by decide +kernel
theorem dX10_shorten_6 : decode cX10_shorten 6 = .ok (.iload_n 1, 1) := by decide +kernel
theorem dX10_shorten_7 : decode cX10_shorten 7 = .ok (.isub, 1) := by decide +kernel
theorem dX10_shorten_8 : decode cX10_shorten 8 = .ok (.invokestatic 28, 3) := by decide +kernel
theorem dX10_shorten_11 : decode cX10_shorten 11 = .ok (.putfield 25, 3) := by decide +kernel
theorem dX10_shorten_14 : decode cX10_shorten 14 = .ok (.return_, 1) := by decide +kernel
theorem dX10_byteAt_0 : decode cX10_byteAt 0 = .ok (.iload_n 1, 1) := by decide +kernel
theorem dX10_byteAt_1 : decode cX10_byteAt 1 = .ok (.ifCond .lt 33, 3) := by decide +kernel
theorem dX10_byteAt_4 : decode cX10_byteAt 4 = .ok (.iload_n 1, 1) := by decide +kernel
theorem dX10_byteAt_5 : decode cX10_byteAt 5 = .ok (.aload_n 0, 1) := by decide +kernel
theorem dX10_byteAt_6 : decode cX10_byteAt 6 = .ok (.getfield 25, 3) := by decide +kernel
theorem dX10_byteAt_9 : decode cX10_byteAt 9 = .ok (.if_icmp .ge 25, 3) := by decide +kernel
theorem dX10_byteAt_12 : decode cX10_byteAt 12 = .ok (.iload_n 1, 1) := by decide +kernel
theorem dX10_byteAt_13 : decode cX10_byteAt 13 = .ok (.aload_n 0, 1) := by decide +kernel
theorem dX10_byteAt_14 : decode cX10_byteAt 14 = .ok (.getfield 9, 3) := by decide +kernel
theorem dX10_byteAt_17 : decode cX10_byteAt 17 = .ok (.arraylength, 1) := by decide +kernel
theorem dX10_byteAt_18 : decode cX10_byteAt 18 = .ok (.if_icmp .ge 16, 3) := by decide +kernel
theorem dX10_byteAt_21 : decode cX10_byteAt 21 = .ok (.aload_n 0, 1) := by decide +kernel
theorem dX10_byteAt_22 : decode cX10_byteAt 22 = .ok (.getfield 9, 3) := by decide +kernel
theorem dX10_byteAt_25 : decode cX10_byteAt 25 = .ok (.iload_n 1, 1) := by decide +kernel
theorem dX10_byteAt_26 : decode cX10_byteAt 26 = .ok (.baload, 1) := by decide +kernel
theorem dX10_byteAt_27 : decode cX10_byteAt 27 = .ok (.sipush 255, 3) := by decide +kernel
theorem dX10_byteAt_30 : decode cX10_byteAt 30 = .ok (.iand, 1) := by decide +kernel
theorem dX10_byteAt_31 : decode cX10_byteAt 31 = .ok (.goto 4, 3) := by decide +kernel
theorem dX10_byteAt_34 : decode cX10_byteAt 34 = .ok (.iconst (-1), 1) := by decide +kernel
theorem dX10_byteAt_35 : decode cX10_byteAt 35 = .ok (.ireturn, 1) := by decide +kernel
theorem dX10_figureAt_0 : decode cX10_figureAt 0 = .ok (.aload_n 0, 1) := by decide +kernel
theorem dX10_figureAt_1 : decode cX10_figureAt 1 = .ok (.iload_n 1, 1) := by decide +kernel
theorem dX10_figureAt_2 : decode cX10_figureAt 2 = .ok (.invokevirtual 31, 3) := by decide +kernel
theorem dX10_figureAt_5 : decode cX10_figureAt 5 = .ok (.istore_n 2, 1) := by decide +kernel
theorem dX10_figureAt_6 : decode cX10_figureAt 6 = .ok (.iload_n 2, 1) := by decide +kernel
theorem dX10_figureAt_7 : decode cX10_figureAt 7 = .ok (.bipush 48, 2) := by decide +kernel
theorem dX10_figureAt_9 : decode cX10_figureAt 9 = .ok (.if_icmp .lt 16, 3) := by decide +kernel
theorem dX10_figureAt_12 : decode cX10_figureAt 12 = .ok (.iload_n 2, 1) := by decide +kernel
theorem dX10_figureAt_13 : decode cX10_figureAt 13 = .ok (.bipush 57, 2) := by decide +kernel
theorem dX10_figureAt_15 : decode cX10_figureAt 15 = .ok (.if_icmp .gt 10, 3) := by decide +kernel
theorem dX10_figureAt_18 : decode cX10_figureAt 18 = .ok (.iload_n 2, 1) := by decide +kernel
theorem dX10_figureAt_19 : decode cX10_figureAt 19 = .ok (.bipush 48, 2) := by decide +kernel
theorem dX10_figureAt_21 : decode cX10_figureAt 21 = .ok (.isub, 1) := by decide +kernel
theorem dX10_figureAt_22 : decode cX10_figureAt 22 = .ok (.goto 4, 3) := by decide +kernel
theorem dX10_figureAt_25 : decode cX10_figureAt 25 = .ok (.iconst (-1), 1) := by decide +kernel
theorem dX10_figureAt_26 : decode cX10_figureAt 26 = .ok (.ireturn, 1) := by decide +kernel
theorem dX11_init_0 : decode cX11_init 0 = .ok (.aload_n 0, 1) := by decide +kernel
theorem dX11_init_1 : decode cX11_init 1 = .ok (.invokespecial 1, 3) := by decide +kernel
theorem dX11_init_4 : decode cX11_init 4 = .ok (.aload_n 0, 1) := by decide +kernel
theorem dX11_init_5 : decode cX11_init 5 = .ok (.new 7, 3) := by decide +kernel
theorem dX11_init_8 : decode cX11_init 8 = .ok (.dup, 1) := by decide +kernel
theorem dX11_init_9 : decode cX11_init 9 = .ok (.bipush 32, 2) := by decide +kernel
theorem dX11_init_11 : decode cX11_init 11 = .ok (.invokespecial 11, 3) := by decide +kernel
theorem dX11_init_14 : decode cX11_init 14 = .ok (.putfield 14, 3) := by decide +kernel
theorem dX11_init_17 : decode cX11_init 17 = .ok (.aload_n 0, 1) := by decide +kernel
theorem dX11_init_18 : decode cX11_init 18 = .ok (.new 7, 3) := by decide +kernel
theorem dX11_init_21 : decode cX11_init 21 = .ok (.dup, 1) := by decide +kernel
theorem dX11_init_22 : decode cX11_init 22 = .ok (.bipush 23, 2) := by decide +kernel
theorem dX11_init_24 : decode cX11_init 24 = .ok (.invokespecial 11, 3) := by decide +kernel
theorem dX11_init_27 : decode cX11_init 27 = .ok (.putfield 18, 3) := by decide +kernel
theorem dX11_init_30 : decode cX11_init 30 = .ok (.aload_n 0, 1) := by decide +kernel
theorem dX11_init_31 : decode cX11_init 31 = .ok (.new 21, 3) := by decide +kernel
theorem dX11_init_34 : decode cX11_init 34 = .ok (.dup, 1) := by decide +kernel
theorem dX11_init_35 : decode cX11_init 35 = .ok (.invokespecial 23, 3) := by decide +kernel
theorem dX11_init_38 : decode cX11_init 38 = .ok (.putfield 24, 3) := by decide +kernel
theorem dX11_init_41 : decode cX11_init 41 = .ok (.aload_n 0, 1) := by decide +kernel
theorem dX11_init_42 : decode cX11_init 42 = .ok (.new 28, 3) := by decide +kernel
theorem dX11_init_45 : decode cX11_init 45 = .ok (.dup, 1) := by decide +kernel
theorem dX11_init_46 : decode cX11_init 46 = .ok (.invokespecial 30, 3) := by decide +kernel
theorem dX11_init_49 : decode cX11_init 49 = .ok (.putfield 31, 3) := by decide +kernel
theorem dX11_init_52 : decode cX11_init 52 = .ok (.aload_n 0, 1) := by decide +kernel
theorem dX11_init_53 : decode cX11_init 53 = .ok (.new 35, 3) := by decide +kernel
theorem dX11_init_56 : decode cX11_init 56 = .ok (.dup, 1) := by decide +kernel
theorem dX11_init_57 : decode cX11_init 57 = .ok (.invokespecial 37, 3) := by decide +kernel
theorem dX11_init_60 : decode cX11_init 60 = .ok (.putfield 38, 3) := by decide +kernel
theorem dX11_init_63 : decode cX11_init 63 = .ok (.aload_n 0, 1) := by decide +kernel
theorem dX11_init_64 : decode cX11_init 64 = .ok (.new 42, 3) := by decide +kernel
theorem dX11_init_67 : decode cX11_init 67 = .ok (.dup, 1) := by decide +kernel
theorem dX11_init_68 : decode cX11_init 68 = .ok (.aload_n 0, 1) := by decide +kernel
theorem dX11_init_69 : decode cX11_init 69 = .ok (.getfield 24, 3) := by decide +kernel
theorem dX11_init_72 : decode cX11_init 72 = .ok (.aload_n 0, 1) := by decide +kernel
theorem dX11_init_73 : decode cX11_init 73 = .ok (.getfield 31, 3) := by decide +kernel
theorem dX11_init_76 : decode cX11_init 76 = .ok (.aload_n 0, 1) := by decide +kernel
theorem dX11_init_77 : decode cX11_init 77 = .ok (.getfield 38, 3) := by decide +kernel
theorem dX11_init_80 : decode cX11_init 80 = .ok (.invokespecial 44, 3) := by decide +kernel
theorem dX11_init_83 : decode cX11_init 83 = .ok (.putfield 47, 3) := by decide +kernel
theorem dX11_init_86 : decode cX11_init 86 = .ok (.aload_n 0, 1) := by decide +kernel
theorem dX11_init_87 : decode cX11_init 87 = .ok (.new 51, 3) := by decide +kernel
theorem dX11_init_90 : decode cX11_init 90 = .ok (.dup, 1) := by decide +kernel
theorem dX11_init_91 : decode cX11_init 91 = .ok (.aload_n 0, 1) := by decide +kernel
theorem dX11_init_92 : decode cX11_init 92 = .ok (.getfield 31, 3) := by decide +kernel
theorem dX11_init_95 : decode cX11_init 95 = .ok (.aload_n 0, 1) := by decide +kernel
theorem dX11_init_96 : decode cX11_init 96 = .ok (.getfield 38, 3) := by decide +kernel
theorem dX11_init_99 : decode cX11_init 99 = .ok (.aload_n 0, 1) := by decide +kernel
theorem dX11_init_100 : decode cX11_init 100 = .ok (.getfield 47, 3) := by decide +kernel
theorem dX11_init_103 : decode cX11_init 103 = .ok (.invokespecial 53, 3) := by decide +kernel
theorem dX11_init_106 : decode cX11_init 106 = .ok (.putfield 56, 3) := by decide +kernel
theorem dX11_init_109 : decode cX11_init 109 = .ok (.aload_n 0, 1) := by decide +kernel
theorem dX11_init_110 : decode cX11_init 110 = .ok (.new 60, 3) := by decide +kernel
theorem dX11_init_113 : decode cX11_init 113 = .ok (.dup, 1) := by decide +kernel
theorem dX11_init_114 : decode cX11_init 114 = .ok (.aload_n 0, 1) := by decide +kernel
theorem dX11_init_115 : decode cX11_init 115 = .ok (.getfield 31, 3) := by decide +kernel
theorem dX11_init_118 : decode cX11_init 118 = .ok (.aload_n 0, 1) := by decide +kernel
theorem dX11_init_119 : decode cX11_init 119 = .ok (.getfield 38, 3) := by decide +kernel
theorem dX11_init_122 : decode cX11_init 122 = .ok (.aload_n 0, 1) := by decide +kernel
theorem dX11_init_123 : decode cX11_init 123 = .ok (.getfield 47, 3) := by decide +kernel
theorem dX11_init_126 : decode cX11_init 126 = .ok (.invokespecial 62, 3) := by decide +kernel
theorem dX11_init_129 : decode cX11_init 129 = .ok (.putfield 63, 3) := by decide +kernel
theorem dX11_init_132 : decode cX11_init 132 = .ok (.aload_n 0, 1) := by decide +kernel
theorem dX11_init_133 : decode cX11_init 133 = .ok (.new 67, 3) := by decide +kernel
theorem dX11_init_136 : decode cX11_init 136 = .ok (.dup, 1) := by decide +kernel
theorem dX11_init_137 : decode cX11_init 137 = .ok (.aload_n 0, 1) := by decide +kernel
theorem dX11_init_138 : decode cX11_init 138 = .ok (.getfield 31, 3) := by decide +kernel
theorem dX11_init_141 : decode cX11_init 141 = .ok (.aload_n 0, 1) := by decide +kernel
theorem dX11_init_142 : decode cX11_init 142 = .ok (.getfield 38, 3) := by decide +kernel
theorem dX11_init_145 : decode cX11_init 145 = .ok (.aload_n 0, 1) := by decide +kernel
theorem dX11_init_146 : decode cX11_init 146 = .ok (.getfield 47, 3) := by decide +kernel
theorem dX11_init_149 : decode cX11_init 149 = .ok (.invokespecial 69, 3) := by decide +kernel
theorem dX11_init_152 : decode cX11_init 152 = .ok (.putfield 70, 3) := by decide +kernel
theorem dX11_init_155 : decode cX11_init 155 = .ok (.aload_n 0, 1) := by decide +kernel
theorem dX11_init_156 : decode cX11_init 156 = .ok (.new 74, 3) := by decide +kernel
theorem dX11_init_159 : decode cX11_init 159 = .ok (.dup, 1) := by decide +kernel
theorem dX11_init_160 : decode cX11_init 160 = .ok (.aload_n 0, 1) := by decide +kernel
theorem dX11_init_161 : decode cX11_init 161 = .ok (.getfield 24, 3) := by decide +kernel
theorem dX11_init_164 : decode cX11_init 164 = .ok (.aload_n 0, 1) := by decide +kernel
theorem dX11_init_165 : decode cX11_init 165 = .ok (.getfield 31, 3) := by decide +kernel
theorem dX11_init_168 : decode cX11_init 168 = .ok (.aload_n 0, 1) := by decide +kernel
theorem dX11_init_169 : decode cX11_init 169 = .ok (.getfield 38, 3) := by decide +kernel
theorem dX11_init_172 : decode cX11_init 172 = .ok (.aload_n 0, 1) := by decide +kernel
theorem dX11_init_173 : decode cX11_init 173 = .ok (.getfield 47, 3) := by decide +kernel
theorem dX11_init_176 : decode cX11_init 176 = .ok (.invokespecial 76, 3) := by decide +kernel
theorem dX11_init_179 : decode cX11_init 179 = .ok (.putfield 79, 3) := by decide +kernel
theorem dX11_init_182 : decode cX11_init 182 = .ok (.aload_n 0, 1) := by decide +kernel
theorem dX11_init_183 : decode cX11_init 183 = .ok (.new 83, 3) := by decide +kernel
theorem dX11_init_186 : decode cX11_init 186 = .ok (.dup, 1) := by decide +kernel
theorem dX11_init_187 : decode cX11_init 187 = .ok (.invokespecial 85, 3) := by decide +kernel
theorem dX11_init_190 : decode cX11_init 190 = .ok (.putfield 86, 3) := by decide +kernel
theorem dX11_init_193 : decode cX11_init 193 = .ok (.aload_n 0, 1) := by decide +kernel
theorem dX11_init_194 : decode cX11_init 194 = .ok (.iconst 4, 1) := by decide +kernel
theorem dX11_init_195 : decode cX11_init 195 = .ok (.anewarray 90, 3) := by decide +kernel
theorem dX11_init_198 : decode cX11_init 198 = .ok (.putfield 92, 3) := by decide +kernel
theorem dX11_init_201 : decode cX11_init 201 = .ok (.iconst 0, 1) := by decide +kernel
theorem dX11_init_202 : decode cX11_init 202 = .ok (.istore_n 1, 1) := by decide +kernel
theorem dX11_init_203 : decode cX11_init 203 = .ok (.iload_n 1, 1) := by decide +kernel
theorem dX11_init_204 : decode cX11_init 204 = .ok (.aload_n 0, 1) := by decide +kernel
theorem dX11_init_205 : decode cX11_init 205 = .ok (.getfield 92, 3) := by decide +kernel
theorem dX11_init_208 : decode cX11_init 208 = .ok (.arraylength, 1) := by decide +kernel
theorem dX11_init_209 : decode cX11_init 209 = .ok (.if_icmp .ge 22, 3) := by decide +kernel
theorem dX11_init_212 : decode cX11_init 212 = .ok (.aload_n 0, 1) := by decide +kernel
theorem dX11_init_213 : decode cX11_init 213 = .ok (.getfield 92, 3) := by decide +kernel
theorem dX11_init_216 : decode cX11_init 216 = .ok (.iload_n 1, 1) := by decide +kernel
theorem dX11_init_217 : decode cX11_init 217 = .ok (.new 90, 3) := by decide +kernel
theorem dX11_init_220 : decode cX11_init 220 = .ok (.dup, 1) := by decide +kernel
theorem dX11_init_221 : decode cX11_init 221 = .ok (.invokespecial 96, 3) := by decide +kernel
theorem dX11_init_224 : decode cX11_init 224 = .ok (.aastore, 1) := by decide +kernel
theorem dX11_init_225 : decode cX11_init 225 = .ok (.iinc 1 1, 3) := by decide +kernel
theorem dX11_init_228 : decode cX11_init 228 = .ok (.goto (-25), 3) := by decide +kernel
theorem dX11_init_231 : decode cX11_init 231 = .ok (.return_, 1) := by decide +kernel
theorem dX11_type_0 : decode cX11_type 0 = .ok (.aload_n 0, 1) := by decide +kernel
theorem dX11_type_1 : decode cX11_type 1 = .ok (.iload_n 1, 1) := by decide +kernel
theorem dX11_type_2 : decode cX11_type 2 = .ok (.invokevirtual 97, 3) := by decide +kernel
theorem dX11_type_5 : decode cX11_type 5 = .ok (.astore_n 3, 1) := by decide +kernel
theorem dX11_type_6 : decode cX11_type 6 = .ok (.aload_n 3, 1) := by decide +kernel
theorem dX11_type_7 : decode cX11_type 7 = .ok (.ifnull 14, 3) := by decide +kernel
theorem dX11_type_10 : decode cX11_type 10 = .ok (.iload_n 2, 1) := by decide +kernel
theorem dX11_type_11 : decode cX11_type 11 = .ok (.iconst 0, 1) := by decide +kernel
theorem dX11_type_12 : decode cX11_type 12 = .ok (.sipush 255, 3) := by decide +kernel
theorem dX11_type_15 : decode cX11_type 15 = .ok (.invokestatic 101, 3) := by decide +kernel
theorem dX11_type_18 : decode cX11_type 18 = .ok (.ifCond .ne 6, 3) := by decide +kernel
theorem dX11_type_21 : decode cX11_type 21 = .ok (.bipush (-2), 2) := by decide +kernel
theorem dX11_type_23 : decode cX11_type 23 = .ok (.ireturn, 1) := by decide +kernel
theorem dX11_type_24 : decode cX11_type 24 = .ok (.aload_n 3, 1) := by decide +kernel
theorem dX11_type_25 : decode cX11_type 25 = .ok (.invokevirtual 105, 3) := by decide +kernel
theorem dX11_type_28 : decode cX11_type 28 = .ok (.ifCond .eq 6, 3) := by decide +kernel
theorem dX11_type_31 : decode cX11_type 31 = .ok (.bipush (-4), 2) := by decide +kernel
theorem dX11_type_33 : decode cX11_type 33 = .ok (.ireturn, 1) := by decide +kernel
theorem dX11_type_34 : decode cX11_type 34 = .ok (.aload_n 3, 1) := by decide +kernel
theorem dX11_type_35 : decode cX11_type 35 = .ok (.iload_n 2, 1) := by decide +kernel
theorem dX11_type_36 : decode cX11_type 36 = .ok (.invokevirtual 109, 3) := by decide +kernel
theorem dX11_type_39 : decode cX11_type 39 = .ok (.aload_n 0, 1) := by decide +kernel
theorem dX11_type_40 : decode cX11_type 40 = .ok (.invokevirtual 112, 3) := by decide +kernel
theorem dX11_type_43 : decode cX11_type 43 = .ok (.aload_n 3, 1) := by decide +kernel
theorem dX11_type_44 : decode cX11_type 44 = .ok (.invokevirtual 115, 3) := by decide +kernel
theorem dX11_type_47 : decode cX11_type 47 = .ok (.ireturn, 1) := by decide +kernel
theorem dX11_wipe_0 : decode cX11_wipe 0 = .ok (.aload_n 0, 1) := by decide +kernel
theorem dX11_wipe_1 : decode cX11_wipe 1 = .ok (.iload_n 1, 1) := by decide +kernel
theorem dX11_wipe_2 : decode cX11_wipe 2 = .ok (.invokevirtual 97, 3) := by decide +kernel
theorem dX11_wipe_5 : decode cX11_wipe 5 = .ok (.astore_n 2, 1) := by decide +kernel
theorem dX11_wipe_6 : decode cX11_wipe 6 = .ok (.aload_n 2, 1) := by decide +kernel
theorem dX11_wipe_7 : decode cX11_wipe 7 = .ok (.ifnonnull 6, 3) := by decide +kernel
theorem dX11_wipe_10 : decode cX11_wipe 10 = .ok (.bipush (-2), 2) := by decide +kernel
theorem dX11_wipe_12 : decode cX11_wipe 12 = .ok (.ireturn, 1) := by decide +kernel
theorem dX11_wipe_13 : decode cX11_wipe 13 = .ok (.aload_n 2, 1) := by decide +kernel
theorem dX11_wipe_14 : decode cX11_wipe 14 = .ok (.invokevirtual 115, 3) := by decide +kernel
theorem dX11_wipe_17 : decode cX11_wipe 17 = .ok (.istore_n 3, 1) := by decide +kernel
theorem dX11_wipe_18 : decode cX11_wipe 18 = .ok (.aload_n 2, 1) := by decide +kernel
theorem dX11_wipe_19 : decode cX11_wipe 19 = .ok (.iload_n 3, 1) := by decide +kernel
theorem dX11_wipe_20 : decode cX11_wipe 20 = .ok (.invokevirtual 119, 3) := by decide +kernel
theorem dX11_wipe_23 : decode cX11_wipe 23 = .ok (.aload_n 0, 1) := by decide +kernel
theorem dX11_wipe_24 : decode cX11_wipe 24 = .ok (.invokevirtual 112, 3) := by decide +kernel
theorem dX11_wipe_27 : decode cX11_wipe 27 = .ok (.iload_n 3, 1) := by decide +kernel
theorem dX11_wipe_28 : decode cX11_wipe 28 = .ok (.ireturn, 1) := by decide +kernel
theorem dX11_undo_0 : decode cX11_undo 0 = .ok (.aload_n 0, 1) := by decide +kernel
theorem dX11_undo_1 : decode cX11_undo 1 = .ok (.iload_n 1, 1) := by decide +kernel
theorem dX11_undo_2 : decode cX11_undo 2 = .ok (.invokevirtual 97, 3) := by decide +kernel
theorem dX11_undo_5 : decode cX11_undo 5 = .ok (.astore_n 2, 1) := by decide +kernel
theorem dX11_undo_6 : decode cX11_undo 6 = .ok (.aload_n 2, 1) := by decide +kernel
theorem dX11_undo_7 : decode cX11_undo 7 = .ok (.ifnonnull 6, 3) := by decide +kernel
theorem dX11_undo_10 : decode cX11_undo 10 = .ok (.bipush (-2), 2) := by decide +kernel
theorem dX11_undo_12 : decode cX11_undo 12 = .ok (.ireturn, 1) := by decide +kernel
theorem dX11_undo_13 : decode cX11_undo 13 = .ok (.aload_n 2, 1) := by decide +kernel
theorem dX11_undo_14 : decode cX11_undo 14 = .ok (.invokevirtual 115, 3) := by decide +kernel
theorem dX11_undo_17 : decode cX11_undo 17 = .ok (.ifCond .ne 6, 3) := by decide +kernel
theorem dX11_undo_20 : decode cX11_undo 20 = .ok (.bipush (-3), 2) := by decide +kernel
theorem dX11_undo_22 : decode cX11_undo 22 = .ok (.ireturn, 1) := by decide +kernel
theorem dX11_undo_23 : decode cX11_undo 23 = .ok (.aload_n 2, 1) := by decide +kernel
theorem dX11_undo_24 : decode cX11_undo 24 = .ok (.iconst 1, 1) := by decide +kernel
theorem dX11_undo_25 : decode cX11_undo 25 = .ok (.invokevirtual 119, 3) := by decide +kernel
theorem dX11_undo_28 : decode cX11_undo 28 = .ok (.aload_n 0, 1) := by decide +kernel
theorem dX11_undo_29 : decode cX11_undo 29 = .ok (.invokevirtual 112, 3) := by decide +kernel
theorem dX11_undo_32 : decode cX11_undo 32 = .ok (.aload_n 2, 1) := by decide +kernel
theorem dX11_undo_33 : decode cX11_undo 33 = .ok (.invokevirtual 115, 3) := by decide +kernel
theorem dX11_undo_36 : decode cX11_undo 36 = .ok (.ireturn, 1) := by decide +kernel
theorem dX11_fault_0 : decode cX11_fault 0 = .ok (.iload_n 1, 1) := by decide +kernel
theorem dX11_fault_1 : decode cX11_fault 1 = .ok (.iconst 0, 1) := by decide +kernel
theorem dX11_fault_2 : decode cX11_fault 2 = .ok (.iconst 1, 1) := by decide +kernel
theorem dX11_fault_3 : decode cX11_fault 3 = .ok (.invokestatic 101, 3) := by decide +kernel
theorem dX11_fault_6 : decode cX11_fault 6 = .ok (.ifCond .ne 6, 3) := by decide +kernel
theorem dX11_fault_9 : decode cX11_fault 9 = .ok (.bipush (-2), 2) := by decide +kernel
theorem dX11_fault_11 : decode cX11_fault 11 = .ok (.ireturn, 1) := by decide +kernel
theorem dX11_fault_12 : decode cX11_fault 12 = .ok (.iload_n 1, 1) := by decide +kernel
theorem dX11_fault_13 : decode cX11_fault 13 = .ok (.ifCond .ne 13, 3) := by decide +kernel
theorem dX11_fault_16 : decode cX11_fault 16 = .ok (.aload_n 0, 1) := by decide +kernel
theorem dX11_fault_17 : decode cX11_fault 17 = .ok (.getfield 24, 3) := by decide +kernel
theorem dX11_fault_20 : decode cX11_fault 20 = .ok (.invokevirtual 122, 3) := by decide +kernel
theorem dX11_fault_23 : decode cX11_fault 23 = .ok (.goto 10, 3) := by decide +kernel
theorem dX11_fault_26 : decode cX11_fault 26 = .ok (.aload_n 0, 1) := by decide +kernel
theorem dX11_fault_27 : decode cX11_fault 27 = .ok (.getfield 31, 3) := by decide +kernel
theorem dX11_fault_30 : decode cX11_fault 30 = .ok (.invokevirtual 125, 3) := by decide +kernel
theorem dX11_fault_33 : decode cX11_fault 33 = .ok (.ireturn, 1) := by decide +kernel
theorem dX11_part_0 : decode cX11_part 0 = .ok (.aload_n 0, 1) := by decide +kernel
theorem dX11_part_1 : decode cX11_part 1 = .ok (.getfield 24, 3) := by decide +kernel
theorem dX11_part_4 : decode cX11_part 4 = .ok (.iload_n 1, 1) := by decide +kernel
theorem dX11_part_5 : decode cX11_part 5 = .ok (.invokevirtual 126, 3) := by decide +kernel
theorem dX11_part_8 : decode cX11_part 8 = .ok (.ifCond .eq 12, 3) := by decide +kernel
theorem dX11_part_11 : decode cX11_part 11 = .ok (.iload_n 2, 1) := by decide +kernel
theorem dX11_part_12 : decode cX11_part 12 = .ok (.iconst 0, 1) := by decide +kernel
theorem dX11_part_13 : decode cX11_part 13 = .ok (.iconst 1, 1) := by decide +kernel
theorem dX11_part_14 : decode cX11_part 14 = .ok (.invokestatic 101, 3) := by decide +kernel
theorem dX11_part_17 : decode cX11_part 17 = .ok (.ifCond .ne 6, 3) := by decide +kernel
theorem dX11_part_20 : decode cX11_part 20 = .ok (.bipush (-2), 2) := by decide +kernel
theorem dX11_part_22 : decode cX11_part 22 = .ok (.ireturn, 1) := by decide +kernel
theorem dX11_part_23 : decode cX11_part 23 = .ok (.iload_n 2, 1) := by decide +kernel
theorem dX11_part_24 : decode cX11_part 24 = .ok (.ifCond .ne 14, 3) := by decide +kernel
theorem dX11_part_27 : decode cX11_part 27 = .ok (.aload_n 0, 1) := by decide +kernel
theorem dX11_part_28 : decode cX11_part 28 = .ok (.getfield 24, 3) := by decide +kernel
theorem dX11_part_31 : decode cX11_part 31 = .ok (.iload_n 1, 1) := by decide +kernel
theorem dX11_part_32 : decode cX11_part 32 = .ok (.invokevirtual 130, 3) := by decide +kernel
theorem dX11_part_35 : decode cX11_part 35 = .ok (.goto 11, 3) := by decide +kernel
theorem dX11_part_38 : decode cX11_part 38 = .ok (.aload_n 0, 1) := by decide +kernel
theorem dX11_part_39 : decode cX11_part 39 = .ok (.getfield 24, 3) := by decide +kernel
theorem dX11_part_42 : decode cX11_part 42 = .ok (.iload_n 1, 1) := by decide +kernel
theorem dX11_part_43 : decode cX11_part 43 = .ok (.invokevirtual 134, 3) := by decide +kernel
theorem dX11_part_46 : decode cX11_part 46 = .ok (.ireturn, 1) := by decide +kernel
theorem dX11_walker_0 : decode cX11_walker 0 = .ok (.aload_n 0, 1) := by decide +kernel
theorem dX11_walker_1 : decode cX11_walker 1 = .ok (.getfield 31, 3) := by decide +kernel
theorem dX11_walker_4 : decode cX11_walker 4 = .ok (.iload_n 1, 1) := by decide +kernel
theorem dX11_walker_5 : decode cX11_walker 5 = .ok (.invokevirtual 137, 3) := by decide +kernel
theorem dX11_walker_8 : decode cX11_walker 8 = .ok (.ifCond .eq 12, 3) := by decide +kernel
theorem dX11_walker_11 : decode cX11_walker 11 = .ok (.iload_n 2, 1) := by decide +kernel
theorem dX11_walker_12 : decode cX11_walker 12 = .ok (.iconst 0, 1) := by decide +kernel
theorem dX11_walker_13 : decode cX11_walker 13 = .ok (.iconst 2, 1) := by decide +kernel
theorem dX11_walker_14 : decode cX11_walker 14 = .ok (.invokestatic 101, 3) := by decide +kernel
theorem dX11_walker_17 : decode cX11_walker 17 = .ok (.ifCond .ne 6, 3) := by decide +kernel
theorem dX11_walker_20 : decode cX11_walker 20 = .ok (.bipush (-2), 2) := by decide +kernel
theorem dX11_walker_22 : decode cX11_walker 22 = .ok (.ireturn, 1) := by decide +kernel
theorem dX11_walker_23 : decode cX11_walker 23 = .ok (.iload_n 2, 1) := by decide +kernel
theorem dX11_walker_24 : decode cX11_walker 24 = .ok (.ifCond .ne 12, 3) := by decide +kernel
theorem dX11_walker_27 : decode cX11_walker 27 = .ok (.aload_n 0, 1) := by decide +kernel
theorem dX11_walker_28 : decode cX11_walker 28 = .ok (.getfield 31, 3) := by decide +kernel
theorem dX11_walker_31 : decode cX11_walker 31 = .ok (.iload_n 1, 1) := by decide +kernel
theorem dX11_walker_32 : decode cX11_walker 32 = .ok (.invokevirtual 138, 3) := by decide +kernel
theorem dX11_walker_35 : decode cX11_walker 35 = .ok (.ireturn, 1) := by decide +kernel
theorem dX11_walker_36 : decode cX11_walker 36 = .ok (.iload_n 2, 1) := by decide +kernel
theorem dX11_walker_37 : decode cX11_walker 37 = .ok (.iconst 1, 1) := by decide +kernel
theorem dX11_walker_38 : decode cX11_walker 38 = .ok (.if_icmp .ne 14, 3) := by decide +kernel
theorem dX11_walker_41 : decode cX11_walker 41 = .ok (.aload_n 0, 1) := by decide +kernel
theorem dX11_walker_42 : decode cX11_walker 42 = .ok (.getfield 31, 3) := by decide +kernel
theorem dX11_walker_45 : decode cX11_walker 45 = .ok (.iload_n 1, 1) := by decide +kernel
theorem dX11_walker_46 : decode cX11_walker 46 = .ok (.invokevirtual 141, 3) := by decide +kernel
theorem dX11_walker_49 : decode cX11_walker 49 = .ok (.goto 11, 3) := by decide +kernel
theorem dX11_walker_52 : decode cX11_walker 52 = .ok (.aload_n 0, 1) := by decide +kernel
theorem dX11_walker_53 : decode cX11_walker 53 = .ok (.getfield 31, 3) := by decide +kernel
theorem dX11_walker_56 : decode cX11_walker 56 = .ok (.iload_n 1, 1) := by decide +kernel
theorem dX11_walker_57 : decode cX11_walker 57 = .ok (.invokevirtual 144, 3) := by decide +kernel
theorem dX11_walker_60 : decode cX11_walker 60 = .ok (.ireturn, 1) := by decide +kernel
theorem dX11_set_0 : decode cX11_set 0 = .ok (.aload_n 0, 1) := by decide +kernel
theorem dX11_set_1 : decode cX11_set 1 = .ok (.getfield 38, 3) := by decide +kernel
theorem dX11_set_4 : decode cX11_set 4 = .ok (.iload_n 1, 1) := by decide +kernel
theorem dX11_set_5 : decode cX11_set 5 = .ok (.iload_n 2, 1) := by decide +kernel
theorem dX11_set_6 : decode cX11_set 6 = .ok (.invokevirtual 147, 3) := by decide +kernel
theorem dX11_set_9 : decode cX11_set 9 = .ok (.ifCond .ne 6, 3) := by decide +kernel
theorem dX11_set_12 : decode cX11_set 12 = .ok (.bipush (-2), 2) := by decide +kernel
theorem dX11_set_14 : decode cX11_set 14 = .ok (.ireturn, 1) := by decide +kernel
theorem dX11_set_15 : decode cX11_set 15 = .ok (.aload_n 0, 1) := by decide +kernel
theorem dX11_set_16 : decode cX11_set 16 = .ok (.getfield 38, 3) := by decide +kernel
theorem dX11_set_19 : decode cX11_set 19 = .ok (.iload_n 1, 1) := by decide +kernel
theorem dX11_set_20 : decode cX11_set 20 = .ok (.iload_n 2, 1) := by decide +kernel
theorem dX11_set_21 : decode cX11_set 21 = .ok (.invokevirtual 151, 3) := by decide +kernel
theorem dX11_set_24 : decode cX11_set 24 = .ok (.istore_n 3, 1) := by decide +kernel
theorem dX11_set_25 : decode cX11_set 25 = .ok (.aload_n 0, 1) := by decide +kernel
theorem dX11_set_26 : decode cX11_set 26 = .ok (.getfield 47, 3) := by decide +kernel
theorem dX11_set_29 : decode cX11_set 29 = .ok (.invokevirtual 155, 3) := by decide +kernel
theorem dX11_set_32 : decode cX11_set 32 = .ok (.iload_n 3, 1) := by decide +kernel
theorem dX11_set_33 : decode cX11_set 33 = .ok (.ireturn, 1) := by decide +kernel
theorem dX11_place_0 : decode cX11_place 0 = .ok (.aload_n 0, 1) := by decide +kernel
theorem dX11_place_1 : decode cX11_place 1 = .ok (.getfield 31, 3) := by decide +kernel
theorem dX11_place_4 : decode cX11_place 4 = .ok (.iload_n 1, 1) := by decide +kernel
theorem dX11_place_5 : decode cX11_place 5 = .ok (.invokevirtual 137, 3) := by decide +kernel
theorem dX11_place_8 : decode cX11_place 8 = .ok (.ifCond .eq 14, 3) := by decide +kernel
theorem dX11_place_11 : decode cX11_place 11 = .ok (.iload_n 2, 1) := by decide +kernel
theorem dX11_place_12 : decode cX11_place 12 = .ok (.iconst 0, 1) := by decide +kernel
theorem dX11_place_13 : decode cX11_place 13 = .ok (.sipush 1999, 3) := by decide +kernel
theorem dX11_place_16 : decode cX11_place 16 = .ok (.invokestatic 101, 3) := by decide +kernel
theorem dX11_place_19 : decode cX11_place 19 = .ok (.ifCond .ne 6, 3) := by decide +kernel
theorem dX11_place_22 : decode cX11_place 22 = .ok (.bipush (-2), 2) := by decide +kernel
theorem dX11_place_24 : decode cX11_place 24 = .ok (.ireturn, 1) := by decide +kernel
theorem dX11_place_25 : decode cX11_place 25 = .ok (.aload_n 0, 1) := by decide +kernel
theorem dX11_place_26 : decode cX11_place 26 = .ok (.getfield 47, 3) := by decide +kernel
theorem dX11_place_29 : decode cX11_place 29 = .ok (.iload_n 1, 1) := by decide +kernel
theorem dX11_place_30 : decode cX11_place 30 = .ok (.iload_n 2, 1) := by decide +kernel
theorem dX11_place_31 : decode cX11_place 31 = .ok (.invokevirtual 158, 3) := by decide +kernel
theorem dX11_place_34 : decode cX11_place 34 = .ok (.ireturn, 1) := by decide +kernel
theorem dX11_treads_0 : decode cX11_treads 0 = .ok (.aload_n 0, 1) := by decide +kernel
theorem dX11_treads_1 : decode cX11_treads 1 = .ok (.getfield 31, 3) := by decide +kernel
theorem dX11_treads_4 : decode cX11_treads 4 = .ok (.iload_n 1, 1) := by decide +kernel
theorem dX11_treads_5 : decode cX11_treads 5 = .ok (.invokevirtual 137, 3) := by decide +kernel
theorem dX11_treads_8 : decode cX11_treads 8 = .ok (.ifCond .eq 14, 3) := by decide +kernel
theorem dX11_treads_11 : decode cX11_treads 11 = .ok (.aload_n 0, 1) := by decide +kernel
theorem dX11_treads_12 : decode cX11_treads 12 = .ok (.getfield 24, 3) := by decide +kernel
theorem dX11_treads_15 : decode cX11_treads 15 = .ok (.iload_n 2, 1) := by decide +kernel
theorem dX11_treads_16 : decode cX11_treads 16 = .ok (.invokevirtual 126, 3) := by decide +kernel
theorem dX11_treads_19 : decode cX11_treads 19 = .ok (.ifCond .ne 6, 3) := by decide +kernel
theorem dX11_treads_22 : decode cX11_treads 22 = .ok (.bipush (-2), 2) := by decide +kernel
theorem dX11_treads_24 : decode cX11_treads 24 = .ok (.ireturn, 1) := by decide +kernel
theorem dX11_treads_25 : decode cX11_treads 25 = .ok (.aload_n 0, 1) := by decide +kernel
theorem dX11_treads_26 : decode cX11_treads 26 = .ok (.getfield 47, 3) := by decide +kernel
theorem dX11_treads_29 : decode cX11_treads 29 = .ok (.iload_n 1, 1) := by decide +kernel
theorem dX11_treads_30 : decode cX11_treads 30 = .ok (.iload_n 2, 1) := by decide +kernel
theorem dX11_treads_31 : decode cX11_treads 31 = .ok (.invokevirtual 161, 3) := by decide +kernel
theorem dX11_treads_34 : decode cX11_treads 34 = .ok (.ireturn, 1) := by decide +kernel
theorem dX11_hits_0 : decode cX11_hits 0 = .ok (.aload_n 0, 1) := by decide +kernel
theorem dX11_hits_1 : decode cX11_hits 1 = .ok (.getfield 24, 3) := by decide +kernel
theorem dX11_hits_4 : decode cX11_hits 4 = .ok (.iload_n 1, 1) := by decide +kernel
theorem dX11_hits_5 : decode cX11_hits 5 = .ok (.invokevirtual 126, 3) := by decide +kernel
theorem dX11_hits_8 : decode cX11_hits 8 = .ok (.ifCond .eq 23, 3) := by decide +kernel
theorem dX11_hits_11 : decode cX11_hits 11 = .ok (.aload_n 0, 1) := by decide +kernel
theorem dX11_hits_12 : decode cX11_hits 12 = .ok (.getfield 24, 3) := by decide +kernel
theorem dX11_hits_15 : decode cX11_hits 15 = .ok (.iload_n 2, 1) := by decide +kernel
theorem dX11_hits_16 : decode cX11_hits 16 = .ok (.invokevirtual 126, 3) := by decide +kernel
theorem dX11_hits_19 : decode cX11_hits 19 = .ok (.ifCond .eq 12, 3) := by decide +kernel
theorem dX11_hits_22 : decode cX11_hits 22 = .ok (.iload_n 3, 1) := by decide +kernel
theorem dX11_hits_23 : decode cX11_hits 23 = .ok (.iconst 0, 1) := by decide +kernel
theorem dX11_hits_24 : decode cX11_hits 24 = .ok (.iconst 1, 1) := by decide +kernel
theorem dX11_hits_25 : decode cX11_hits 25 = .ok (.invokestatic 101, 3) := by decide +kernel
theorem dX11_hits_28 : decode cX11_hits 28 = .ok (.ifCond .ne 6, 3) := by decide +kernel
theorem dX11_hits_31 : decode cX11_hits 31 = .ok (.bipush (-2), 2) := by decide +kernel
theorem dX11_hits_33 : decode cX11_hits 33 = .ok (.ireturn, 1) := by decide +kernel
theorem dX11_hits_34 : decode cX11_hits 34 = .ok (.aload_n 0, 1) := by decide +kernel
theorem dX11_hits_35 : decode cX11_hits 35 = .ok (.getfield 47, 3) := by decide +kernel
theorem dX11_hits_38 : decode cX11_hits 38 = .ok (.iload_n 1, 1) := by decide +kernel
theorem dX11_hits_39 : decode cX11_hits 39 = .ok (.iload_n 2, 1) := by decide +kernel
theorem dX11_hits_40 : decode cX11_hits 40 = .ok (.iload_n 3, 1) := by decide +kernel
theorem dX11_hits_41 : decode cX11_hits 41 = .ok (.invokevirtual 164, 3) := by decide +kernel
theorem dX11_hits_44 : decode cX11_hits 44 = .ok (.ireturn, 1) := by decide +kernel
theorem dX11_harm_0 : decode cX11_harm 0 = .ok (.iload_n 1, 1) := by decide +kernel
theorem dX11_harm_1 : decode cX11_harm 1 = .ok (.iconst (-1), 1) := by decide +kernel
theorem dX11_harm_2 : decode cX11_harm 2 = .ok (.if_icmp .eq 14, 3) := by decide +kernel
theorem dX11_harm_5 : decode cX11_harm 5 = .ok (.aload_n 0, 1) := by decide +kernel
theorem dX11_harm_6 : decode cX11_harm 6 = .ok (.getfield 31, 3) := by decide +kernel
theorem dX11_harm_9 : decode cX11_harm 9 = .ok (.iload_n 1, 1) := by decide +kernel
theorem dX11_harm_10 : decode cX11_harm 10 = .ok (.invokevirtual 137, 3) := by decide +kernel
theorem dX11_harm_13 : decode cX11_harm 13 = .ok (.ifCond .eq 7, 3) := by decide +kernel
theorem dX11_harm_16 : decode cX11_harm 16 = .ok (.iconst 1, 1) := by decide +kernel
theorem dX11_harm_17 : decode cX11_harm 17 = .ok (.goto 4, 3) := by decide +kernel
theorem dX11_harm_20 : decode cX11_harm 20 = .ok (.iconst 0, 1) := by decide +kernel
theorem dX11_harm_21 : decode cX11_harm 21 = .ok (.istore 4, 2) := by decide +kernel
theorem dX11_harm_23 : decode cX11_harm 23 = .ok (.iload 4, 2) := by decide +kernel
theorem dX11_harm_25 : decode cX11_harm 25 = .ok (.ifCond .eq 28, 3) := by decide +kernel
theorem dX11_harm_28 : decode cX11_harm 28 = .ok (.aload_n 0, 1) := by decide +kernel
theorem dX11_harm_29 : decode cX11_harm 29 = .ok (.getfield 31, 3) := by decide +kernel
theorem dX11_harm_32 : decode cX11_harm 32 = .ok (.iload_n 2, 1) := by decide +kernel
theorem dX11_harm_33 : decode cX11_harm 33 = .ok (.invokevirtual 137, 3) := by decide +kernel
theorem dX11_harm_36 : decode cX11_harm 36 = .ok (.ifCond .eq 17, 3) := by decide +kernel
theorem dX11_harm_39 : decode cX11_harm 39 = .ok (.iload_n 1, 1) := by decide +kernel
theorem dX11_harm_40 : decode cX11_harm 40 = .ok (.iload_n 2, 1) := by decide +kernel
theorem dX11_harm_41 : decode cX11_harm 41 = .ok (.if_icmp .eq 12, 3) := by decide +kernel
theorem dX11_harm_44 : decode cX11_harm 44 = .ok (.iload_n 3, 1) := by decide +kernel
theorem dX11_harm_45 : decode cX11_harm 45 = .ok (.iconst 0, 1) := by decide +kernel
theorem dX11_harm_46 : decode cX11_harm 46 = .ok (.iconst 1, 1) := by decide +kernel
theorem dX11_harm_47 : decode cX11_harm 47 = .ok (.invokestatic 101, 3) := by decide +kernel
theorem dX11_harm_50 : decode cX11_harm 50 = .ok (.ifCond .ne 9, 3) := by decide +kernel
theorem dX11_harm_53 : decode cX11_harm 53 = .ok (.bipush (-2), 2) := by decide +kernel
theorem dX11_harm_55 : decode cX11_harm 55 = .ok (.invokestatic 168, 3) := by decide +kernel
theorem dX11_harm_58 : decode cX11_harm 58 = .ok (.lreturn, 1) := by decide +kernel
theorem dX11_harm_59 : decode cX11_harm 59 = .ok (.aload_n 0, 1) := by decide +kernel
theorem dX11_harm_60 : decode cX11_harm 60 = .ok (.getfield 31, 3) := by decide +kernel
theorem dX11_harm_63 : decode cX11_harm 63 = .ok (.iload_n 2, 1) := by decide +kernel
theorem dX11_harm_64 : decode cX11_harm 64 = .ok (.invokevirtual 144, 3) := by decide +kernel
theorem dX11_harm_67 : decode cX11_harm 67 = .ok (.istore 5, 2) := by decide +kernel
theorem dX11_harm_69 : decode cX11_harm 69 = .ok (.iload_n 1, 1) := by decide +kernel
theorem dX11_harm_70 : decode cX11_harm 70 = .ok (.iconst (-1), 1) := by decide +kernel
theorem dX11_harm_71 : decode cX11_harm 71 = .ok (.if_icmp .ne 23, 3) := by decide +kernel
theorem dX11_harm_74 : decode cX11_harm 74 = .ok (.aload_n 0, 1) := by decide +kernel
theorem dX11_harm_75 : decode cX11_harm 75 = .ok (.getfield 47, 3) := by decide +kernel
theorem dX11_harm_78 : decode cX11_harm 78 = .ok (.iload_n 2, 1) := by decide +kernel
theorem dX11_harm_79 : decode cX11_harm 79 = .ok (.iload 5, 2) := by decide +kernel
theorem dX11_harm_81 : decode cX11_harm 81 = .ok (.aload_n 0, 1) := by decide +kernel
theorem dX11_harm_82 : decode cX11_harm 82 = .ok (.getfield 38, 3) := by decide +kernel
theorem dX11_harm_85 : decode cX11_harm 85 = .ok (.getfield 172, 3) := by decide +kernel
theorem dX11_harm_88 : decode cX11_harm 88 = .ok (.invokevirtual 176, 3) := by decide +kernel
theorem dX11_harm_91 : decode cX11_harm 91 = .ok (.goto 14, 3) := by decide +kernel
theorem dX11_harm_94 : decode cX11_harm 94 = .ok (.aload_n 0, 1) := by decide +kernel
theorem dX11_harm_95 : decode cX11_harm 95 = .ok (.getfield 47, 3) := by decide +kernel
theorem dX11_harm_98 : decode cX11_harm 98 = .ok (.iload_n 1, 1) := by decide +kernel
theorem dX11_harm_99 : decode cX11_harm 99 = .ok (.iload_n 2, 1) := by decide +kernel
theorem dX11_harm_100 : decode cX11_harm 100 = .ok (.iload 5, 2) := by decide +kernel
theorem dX11_harm_102 : decode cX11_harm 102 = .ok (.invokevirtual 180, 3) := by decide +kernel
theorem dX11_harm_105 : decode cX11_harm 105 = .ok (.lstore 6, 2) := by decide +kernel
theorem dX11_harm_107 : decode cX11_harm 107 = .ok (.lload 6, 2) := by decide +kernel
theorem dX11_harm_109 : decode cX11_harm 109 = .ok (.ldc2_w 183, 3) := by decide +kernel
theorem dX11_harm_112 : decode cX11_harm 112 = .ok (.iload_n 3, 1) := by decide +kernel
theorem dX11_harm_113 : decode cX11_harm 113 = .ok (.invokestatic 185, 3) := by decide +kernel
theorem dX11_harm_116 : decode cX11_harm 116 = .ok (.lreturn, 1) := by decide +kernel
theorem dX11_all_0 : decode cX11_all 0 = .ok (.aload_n 0, 1) := by decide +kernel
theorem dX11_all_1 : decode cX11_all 1 = .ok (.getfield 31, 3) := by decide +kernel
theorem dX11_all_4 : decode cX11_all 4 = .ok (.iload_n 1, 1) := by decide +kernel
theorem dX11_all_5 : decode cX11_all 5 = .ok (.invokevirtual 137, 3) := by decide +kernel
theorem dX11_all_8 : decode cX11_all 8 = .ok (.istore_n 3, 1) := by decide +kernel
theorem dX11_all_9 : decode cX11_all 9 = .ok (.iload_n 3, 1) := by decide +kernel
theorem dX11_all_10 : decode cX11_all 10 = .ok (.ifCond .ne 8, 3) := by decide +kernel
theorem dX11_all_13 : decode cX11_all 13 = .ok (.iload_n 1, 1) := by decide +kernel
theorem dX11_all_14 : decode cX11_all 14 = .ok (.iconst (-1), 1) := by decide +kernel
theorem dX11_all_15 : decode cX11_all 15 = .ok (.if_icmp .ne 12, 3) := by decide +kernel
theorem dX11_all_18 : decode cX11_all 18 = .ok (.iload_n 2, 1) := by decide +kernel
theorem dX11_all_19 : decode cX11_all 19 = .ok (.iconst 0, 1) := by decide +kernel
theorem dX11_all_20 : decode cX11_all 20 = .ok (.iconst 1, 1) := by decide +kernel
theorem dX11_all_21 : decode cX11_all 21 = .ok (.invokestatic 101, 3) := by decide +kernel
theorem dX11_all_24 : decode cX11_all 24 = .ok (.ifCond .ne 9, 3) := by decide +kernel
theorem dX11_all_27 : decode cX11_all 27 = .ok (.bipush (-2), 2) := by decide +kernel
theorem dX11_all_29 : decode cX11_all 29 = .ok (.invokestatic 168, 3) := by decide +kernel
theorem dX11_all_32 : decode cX11_all 32 = .ok (.lreturn, 1) := by decide +kernel
theorem dX11_all_33 : decode cX11_all 33 = .ok (.aload_n 0, 1) := by decide +kernel
theorem dX11_all_34 : decode cX11_all 34 = .ok (.getfield 38, 3) := by decide +kernel
theorem dX11_all_37 : decode cX11_all 37 = .ok (.getfield 172, 3) := by decide +kernel
theorem dX11_all_40 : decode cX11_all 40 = .ok (.istore 4, 2) := by decide +kernel
theorem dX11_all_42 : decode cX11_all 42 = .ok (.iload_n 3, 1) := by decide +kernel
theorem dX11_all_43 : decode cX11_all 43 = .ok (.ifCond .eq 24, 3) := by decide +kernel
theorem dX11_all_46 : decode cX11_all 46 = .ok (.aload_n 0, 1) := by decide +kernel
theorem dX11_all_47 : decode cX11_all 47 = .ok (.getfield 47, 3) := by decide +kernel
theorem dX11_all_50 : decode cX11_all 50 = .ok (.iload_n 1, 1) := by decide +kernel
theorem dX11_all_51 : decode cX11_all 51 = .ok (.aload_n 0, 1) := by decide +kernel
theorem dX11_all_52 : decode cX11_all 52 = .ok (.getfield 31, 3) := by decide +kernel
theorem dX11_all_55 : decode cX11_all 55 = .ok (.iload_n 1, 1) := by decide +kernel
theorem dX11_all_56 : decode cX11_all 56 = .ok (.invokevirtual 144, 3) := by decide +kernel
theorem dX11_all_59 : decode cX11_all 59 = .ok (.iload 4, 2) := by decide +kernel
theorem dX11_all_61 : decode cX11_all 61 = .ok (.invokevirtual 189, 3) := by decide +kernel
theorem dX11_all_64 : decode cX11_all 64 = .ok (.goto 12, 3) := by decide +kernel
theorem dX11_all_67 : decode cX11_all 67 = .ok (.aload_n 0, 1) := by decide +kernel
theorem dX11_all_68 : decode cX11_all 68 = .ok (.getfield 47, 3) := by decide +kernel
theorem dX11_all_71 : decode cX11_all 71 = .ok (.iload 4, 2) := by decide +kernel
theorem dX11_all_73 : decode cX11_all 73 = .ok (.invokevirtual 192, 3) := by decide +kernel
theorem dX11_all_76 : decode cX11_all 76 = .ok (.lstore 5, 2) := by decide +kernel
theorem dX11_all_78 : decode cX11_all 78 = .ok (.lload 5, 2) := by decide +kernel
theorem dX11_all_80 : decode cX11_all 80 = .ok (.ldc2_w 183, 3) := by decide +kernel
theorem dX11_all_83 : decode cX11_all 83 = .ok (.iload_n 2, 1) := by decide +kernel
theorem dX11_all_84 : decode cX11_all 84 = .ok (.invokestatic 185, 3) := by decide +kernel
theorem dX11_all_87 : decode cX11_all 87 = .ok (.lreturn, 1) := by decide +kernel
theorem dX11_ends_0 : decode cX11_ends 0 = .ok (.aload_n 0, 1) := by decide +kernel
theorem dX11_ends_1 : decode cX11_ends 1 = .ok (.getfield 38, 3) := by decide +kernel
theorem dX11_ends_4 : decode cX11_ends 4 = .ok (.getfield 195, 3) := by decide +kernel
theorem dX11_ends_7 : decode cX11_ends 7 = .ok (.aload_n 0, 1) := by decide +kernel
theorem dX11_ends_8 : decode cX11_ends 8 = .ok (.getfield 47, 3) := by decide +kernel
theorem dX11_ends_11 : decode cX11_ends 11 = .ok (.invokevirtual 198, 3) := by decide +kernel
theorem dX11_ends_14 : decode cX11_ends 14 = .ok (.iadd, 1) := by decide +kernel
theorem dX11_ends_15 : decode cX11_ends 15 = .ok (.ireturn, 1) := by decide +kernel
theorem dX11_latest_0 : decode cX11_latest 0 = .ok (.sipush 999, 3) := by decide +kernel
theorem dX11_latest_3 : decode cX11_latest 3 = .ok (.aload_n 0, 1) := by decide +kernel
theorem dX11_latest_4 : decode cX11_latest 4 = .ok (.getfield 38, 3) := by decide +kernel
theorem dX11_latest_7 : decode cX11_latest 7 = .ok (.getfield 201, 3) := by decide +kernel
theorem dX11_latest_10 : decode cX11_latest 10 = .ok (.aload_n 0, 1) := by decide +kernel
theorem dX11_latest_11 : decode cX11_latest 11 = .ok (.getfield 47, 3) := by decide +kernel
theorem dX11_latest_14 : decode cX11_latest 14 = .ok (.invokevirtual 198, 3) := by decide +kernel
theorem dX11_latest_17 : decode cX11_latest 17 = .ok (.isub, 1) := by decide +kernel
theorem dX11_latest_18 : decode cX11_latest 18 = .ok (.invokestatic 204, 3) := by decide +kernel
theorem dX11_latest_21 : decode cX11_latest 21 = .ok (.istore_n 1, 1) := by decide +kernel
theorem dX11_latest_22 : decode cX11_latest 22 = .ok (.iload_n 1, 1) := by decide +kernel
theorem dX11_latest_23 : decode cX11_latest 23 = .ok (.ifCond .ge 7, 3) := by decide +kernel
theorem dX11_latest_26 : decode cX11_latest 26 = .ok (.iconst (-1), 1) := by decide +kernel
theorem dX11_latest_27 : decode cX11_latest 27 = .ok (.goto 4, 3) := by decide +kernel
theorem dX11_latest_30 : decode cX11_latest 30 = .ok (.iload_n 1, 1) := by decide +kernel
theorem dX11_latest_31 : decode cX11_latest 31 = .ok (.ireturn, 1) := by decide +kernel
theorem dX11_curve_0 : decode cX11_curve 0 = .ok (.iload_n 1, 1) := by decide +kernel
theorem dX11_curve_1 : decode cX11_curve 1 = .ok (.iconst 0, 1) := by decide +kernel
theorem dX11_curve_2 : decode cX11_curve 2 = .ok (.bipush 99, 2) := by decide +kernel
theorem dX11_curve_4 : decode cX11_curve 4 = .ok (.invokestatic 101, 3) := by decide +kernel
theorem dX11_curve_7 : decode cX11_curve 7 = .ok (.ifCond .eq 12, 3) := by decide +kernel
theorem dX11_curve_10 : decode cX11_curve 10 = .ok (.iload_n 2, 1) := by decide +kernel
theorem dX11_curve_11 : decode cX11_curve 11 = .ok (.iconst 0, 1) := by decide +kernel
theorem dX11_curve_12 : decode cX11_curve 12 = .ok (.iconst 1, 1) := by decide +kernel
theorem dX11_curve_13 : decode cX11_curve 13 = .ok (.invokestatic 101, 3) := by decide +kernel
theorem dX11_curve_16 : decode cX11_curve 16 = .ok (.ifCond .ne 9, 3) := by decide +kernel
theorem dX11_curve_19 : decode cX11_curve 19 = .ok (.bipush (-2), 2) := by decide +kernel
theorem dX11_curve_21 : decode cX11_curve 21 = .ok (.invokestatic 168, 3) := by decide +kernel
theorem dX11_curve_24 : decode cX11_curve 24 = .ok (.lreturn, 1) := by decide +kernel
theorem dX11_curve_25 : decode cX11_curve 25 = .ok (.aload_n 0, 1) := by decide +kernel
theorem dX11_curve_26 : decode cX11_curve 26 = .ok (.getfield 47, 3) := by decide +kernel
theorem dX11_curve_29 : decode cX11_curve 29 = .ok (.iload_n 1, 1) := by decide +kernel
theorem dX11_curve_30 : decode cX11_curve 30 = .ok (.invokevirtual 192, 3) := by decide +kernel
theorem dX11_curve_33 : decode cX11_curve 33 = .ok (.ldc2_w 183, 3) := by decide +kernel
theorem dX11_curve_36 : decode cX11_curve 36 = .ok (.iload_n 2, 1) := by decide +kernel
theorem dX11_curve_37 : decode cX11_curve 37 = .ok (.invokestatic 185, 3) := by decide +kernel
theorem dX11_curve_40 : decode cX11_curve 40 = .ok (.lreturn, 1) := by decide +kernel
theorem dX11_gap_0 : decode cX11_gap 0 = .ok (.iload_n 1, 1) := by decide +kernel
theorem dX11_gap_1 : decode cX11_gap 1 = .ok (.iconst 0, 1) := by decide +kernel
theorem dX11_gap_2 : decode cX11_gap 2 = .ok (.bipush 99, 2) := by decide +kernel
theorem dX11_gap_4 : decode cX11_gap 4 = .ok (.invokestatic 101, 3) := by decide +kernel
theorem dX11_gap_7 : decode cX11_gap 7 = .ok (.ifCond .ne 6, 3) := by decide +kernel
theorem dX11_gap_10 : decode cX11_gap 10 = .ok (.bipush (-2), 2) := by decide +kernel
theorem dX11_gap_12 : decode cX11_gap 12 = .ok (.ireturn, 1) := by decide +kernel
theorem dX11_gap_13 : decode cX11_gap 13 = .ok (.iconst 0, 1) := by decide +kernel
theorem dX11_gap_14 : decode cX11_gap 14 = .ok (.istore_n 2, 1) := by decide +kernel
theorem dX11_gap_15 : decode cX11_gap 15 = .ok (.aload_n 0, 1) := by decide +kernel
theorem dX11_gap_16 : decode cX11_gap 16 = .ok (.getfield 47, 3) := by decide +kernel
theorem dX11_gap_19 : decode cX11_gap 19 = .ok (.iconst 0, 1) := by decide +kernel
theorem dX11_gap_20 : decode cX11_gap 20 = .ok (.invokevirtual 192, 3) := by decide +kernel
theorem dX11_gap_23 : decode cX11_gap 23 = .ok (.lstore_n 3, 1) := by decide +kernel
theorem dX11_gap_24 : decode cX11_gap 24 = .ok (.iconst 1, 1) := by decide +kernel
theorem dX11_gap_25 : decode cX11_gap 25 = .ok (.istore 5, 2) := by decide +kernel
theorem dX11_gap_27 : decode cX11_gap 27 = .ok (.iload 5, 2) := by decide +kernel
theorem dX11_gap_29 : decode cX11_gap 29 = .ok (.iload_n 1, 1) := by decide +kernel
theorem dX11_gap_30 : decode cX11_gap 30 = .ok (.if_icmp .gt 33, 3) := by decide +kernel
theorem dX11_gap_33 : decode cX11_gap 33 = .ok (.aload_n 0, 1) := by decide +kernel
theorem dX11_gap_34 : decode cX11_gap 34 = .ok (.getfield 47, 3) := by decide +kernel
theorem dX11_gap_37 : decode cX11_gap 37 = .ok (.iload 5, 2) := by decide +kernel
theorem dX11_gap_39 : decode cX11_gap 39 = .ok (.invokevirtual 192, 3) := by decide +kernel
theorem dX11_gap_42 : decode cX11_gap 42 = .ok (.lstore 6, 2) := by decide +kernel
theorem dX11_gap_44 : decode cX11_gap 44 = .ok (.lload 6, 2) := by decide +kernel
theorem dX11_gap_46 : decode cX11_gap 46 = .ok (.lload_n 3, 1) := by decide +kernel
theorem dX11_gap_47 : decode cX11_gap 47 = .ok (.lcmp, 1) := by decide +kernel
theorem dX11_gap_48 : decode cX11_gap 48 = .ok (.ifCond .ge 9, 3) := by decide +kernel
theorem dX11_gap_51 : decode cX11_gap 51 = .ok (.lload 6, 2) := by decide +kernel
theorem dX11_gap_53 : decode cX11_gap 53 = .ok (.lstore_n 3, 1) := by decide +kernel
theorem dX11_gap_54 : decode cX11_gap 54 = .ok (.iload 5, 2) := by decide +kernel
theorem dX11_gap_56 : decode cX11_gap 56 = .ok (.istore_n 2, 1) := by decide +kernel
theorem dX11_gap_57 : decode cX11_gap 57 = .ok (.iinc 5 1, 3) := by decide +kernel
theorem dX11_gap_60 : decode cX11_gap 60 = .ok (.goto (-33), 3) := by decide +kernel
theorem dX11_gap_63 : decode cX11_gap 63 = .ok (.iload_n 2, 1) := by decide +kernel
theorem dX11_gap_64 : decode cX11_gap 64 = .ok (.ireturn, 1) := by decide +kernel
theorem dX11_order_0 : decode cX11_order 0 = .ok (.iload_n 1, 1) := by decide +kernel
theorem dX11_order_1 : decode cX11_order 1 = .ok (.iconst 0, 1) := by decide +kernel
theorem dX11_order_2 : decode cX11_order 2 = .ok (.iconst 5, 1) := by decide +kernel
theorem dX11_order_3 : decode cX11_order 3 = .ok (.invokestatic 101, 3) := by decide +kernel
theorem dX11_order_6 : decode cX11_order 6 = .ok (.ifCond .ne 6, 3) := by decide +kernel
theorem dX11_order_9 : decode cX11_order 9 = .ok (.bipush (-2), 2) := by decide +kernel
theorem dX11_order_11 : decode cX11_order 11 = .ok (.ireturn, 1) := by decide +kernel
theorem dX11_order_12 : decode cX11_order 12 = .ok (.aload_n 0, 1) := by decide +kernel
theorem dX11_order_13 : decode cX11_order 13 = .ok (.getfield 56, 3) := by decide +kernel
theorem dX11_order_16 : decode cX11_order 16 = .ok (.invokevirtual 209, 3) := by decide +kernel
theorem dX11_order_19 : decode cX11_order 19 = .ok (.pop2, 1) := by decide +kernel
theorem dX11_order_20 : decode cX11_order 20 = .ok (.aload_n 0, 1) := by decide +kernel
theorem dX11_order_21 : decode cX11_order 21 = .ok (.getfield 56, 3) := by decide +kernel
theorem dX11_order_24 : decode cX11_order 24 = .ok (.iload_n 1, 1) := by decide +kernel
theorem dX11_order_25 : decode cX11_order 25 = .ok (.invokevirtual 213, 3) := by decide +kernel
theorem dX11_order_28 : decode cX11_order 28 = .ok (.ireturn, 1) := by decide +kernel
theorem dX11_ordered_0 : decode cX11_ordered 0 = .ok (.iload_n 1, 1) := by decide +kernel
theorem dX11_ordered_1 : decode cX11_ordered 1 = .ok (.iconst 0, 1) := by decide +kernel
theorem dX11_ordered_2 : decode cX11_ordered 2 = .ok (.iconst 1, 1) := by decide +kernel
theorem dX11_ordered_3 : decode cX11_ordered 3 = .ok (.invokestatic 101, 3) := by decide +kernel
theorem dX11_ordered_6 : decode cX11_ordered 6 = .ok (.ifCond .ne 9, 3) := by decide +kernel
theorem dX11_ordered_9 : decode cX11_ordered 9 = .ok (.bipush (-2), 2) := by decide +kernel
theorem dX11_ordered_11 : decode cX11_ordered 11 = .ok (.invokestatic 168, 3) := by decide +kernel
theorem dX11_ordered_14 : decode cX11_ordered 14 = .ok (.lreturn, 1) := by decide +kernel
theorem dX11_ordered_15 : decode cX11_ordered 15 = .ok (.aload_n 0, 1) := by decide +kernel
theorem dX11_ordered_16 : decode cX11_ordered 16 = .ok (.getfield 56, 3) := by decide +kernel
theorem dX11_ordered_19 : decode cX11_ordered 19 = .ok (.invokevirtual 209, 3) := by decide +kernel
theorem dX11_ordered_22 : decode cX11_ordered 22 = .ok (.ldc2_w 183, 3) := by decide +kernel
theorem dX11_ordered_25 : decode cX11_ordered 25 = .ok (.iload_n 1, 1) := by decide +kernel
theorem dX11_ordered_26 : decode cX11_ordered 26 = .ok (.invokestatic 185, 3) := by decide +kernel
theorem dX11_ordered_29 : decode cX11_ordered 29 = .ok (.lreturn, 1) := by decide +kernel
theorem dX11_helmets_0 : decode cX11_helmets 0 = .ok (.iload_n 1, 1) := by decide +kernel
theorem dX11_helmets_1 : decode cX11_helmets 1 = .ok (.iconst 0, 1) := by decide +kernel
theorem dX11_helmets_2 : decode cX11_helmets 2 = .ok (.aload_n 0, 1) := by decide +kernel
theorem dX11_helmets_3 : decode cX11_helmets 3 = .ok (.getfield 31, 3) := by decide +kernel
theorem dX11_helmets_6 : decode cX11_helmets 6 = .ok (.invokevirtual 216, 3) := by decide +kernel
theorem dX11_helmets_9 : decode cX11_helmets 9 = .ok (.invokestatic 101, 3) := by decide +kernel
theorem dX11_helmets_12 : decode cX11_helmets 12 = .ok (.ifCond .eq 12, 3) := by decide +kernel
theorem dX11_helmets_15 : decode cX11_helmets 15 = .ok (.iload_n 2, 1) := by decide +kernel
theorem dX11_helmets_16 : decode cX11_helmets 16 = .ok (.iconst 0, 1) := by decide +kernel
theorem dX11_helmets_17 : decode cX11_helmets 17 = .ok (.iconst 2, 1) := by decide +kernel
theorem dX11_helmets_18 : decode cX11_helmets 18 = .ok (.invokestatic 101, 3) := by decide +kernel
theorem dX11_helmets_21 : decode cX11_helmets 21 = .ok (.ifCond .ne 9, 3) := by decide +kernel
theorem dX11_helmets_24 : decode cX11_helmets 24 = .ok (.bipush (-2), 2) := by decide +kernel
theorem dX11_helmets_26 : decode cX11_helmets 26 = .ok (.invokestatic 168, 3) := by decide +kernel
theorem dX11_helmets_29 : decode cX11_helmets 29 = .ok (.lreturn, 1) := by decide +kernel
theorem dX11_helmets_30 : decode cX11_helmets 30 = .ok (.aload_n 0, 1) := by decide +kernel
theorem dX11_helmets_31 : decode cX11_helmets 31 = .ok (.getfield 63, 3) := by decide +kernel
theorem dX11_helmets_34 : decode cX11_helmets 34 = .ok (.iload_n 1, 1) := by decide +kernel
theorem dX11_helmets_35 : decode cX11_helmets 35 = .ok (.invokevirtual 219, 3) := by decide +kernel
theorem dX11_helmets_38 : decode cX11_helmets 38 = .ok (.istore_n 3, 1) := by decide +kernel
theorem dX11_helmets_39 : decode cX11_helmets 39 = .ok (.iload_n 2, 1) := by decide +kernel
theorem dX11_helmets_40 : decode cX11_helmets 40 = .ok (.ifCond .ne 8, 3) := by decide +kernel
theorem dX11_helmets_43 : decode cX11_helmets 43 = .ok (.iload_n 3, 1) := by decide +kernel
theorem dX11_helmets_44 : decode cX11_helmets 44 = .ok (.i2l, 1) := by decide +kernel
theorem dX11_helmets_45 : decode cX11_helmets 45 = .ok (.goto 20, 3) := by decide +kernel
theorem dX11_helmets_48 : decode cX11_helmets 48 = .ok (.aload_n 0, 1) := by decide +kernel
theorem dX11_helmets_49 : decode cX11_helmets 49 = .ok (.getfield 63, 3) := by decide +kernel
theorem dX11_helmets_52 : decode cX11_helmets 52 = .ok (.iload_n 3, 1) := by decide +kernel
theorem dX11_helmets_53 : decode cX11_helmets 53 = .ok (.invokevirtual 221, 3) := by decide +kernel
theorem dX11_helmets_56 : decode cX11_helmets 56 = .ok (.ldc2_w 183, 3) := by decide +kernel
theorem dX11_helmets_59 : decode cX11_helmets 59 = .ok (.iload_n 2, 1) := by decide +kernel
theorem dX11_helmets_60 : decode cX11_helmets 60 = .ok (.iconst 1, 1) := by decide +kernel
theorem dX11_helmets_61 : decode cX11_helmets 61 = .ok (.isub, 1) := by decide +kernel
theorem dX11_helmets_62 : decode cX11_helmets 62 = .ok (.invokestatic 185, 3) := by decide +kernel
theorem dX11_helmets_65 : decode cX11_helmets 65 = .ok (.lreturn, 1) := by decide +kernel
theorem dX11_waits_0 : decode cX11_waits 0 = .ok (.iload_n 1, 1) := by decide +kernel
theorem dX11_waits_1 : decode cX11_waits 1 = .ok (.iconst 1, 1) := by decide +kernel
theorem dX11_waits_2 : decode cX11_waits 2 = .ok (.bipush 6, 2) := by decide +kernel
theorem dX11_waits_4 : decode cX11_waits 4 = .ok (.invokestatic 101, 3) := by decide +kernel
theorem dX11_waits_7 : decode cX11_waits 7 = .ok (.ifCond .eq 28, 3) := by decide +kernel
theorem dX11_waits_10 : decode cX11_waits 10 = .ok (.iload_n 2, 1) := by decide +kernel
theorem dX11_waits_11 : decode cX11_waits 11 = .ok (.iconst 0, 1) := by decide +kernel
theorem dX11_waits_12 : decode cX11_waits 12 = .ok (.bipush 99, 2) := by decide +kernel
theorem dX11_waits_14 : decode cX11_waits 14 = .ok (.invokestatic 101, 3) := by decide +kernel
theorem dX11_waits_17 : decode cX11_waits 17 = .ok (.ifCond .eq 18, 3) := by decide +kernel
theorem dX11_waits_20 : decode cX11_waits 20 = .ok (.iload_n 3, 1) := by decide +kernel
theorem dX11_waits_21 : decode cX11_waits 21 = .ok (.iconst 0, 1) := by decide +kernel
theorem dX11_waits_22 : decode cX11_waits 22 = .ok (.sipush 999, 3) := by decide +kernel
theorem dX11_waits_25 : decode cX11_waits 25 = .ok (.invokestatic 101, 3) := by decide +kernel
theorem dX11_waits_28 : decode cX11_waits 28 = .ok (.ifCond .eq 7, 3) := by decide +kernel
theorem dX11_waits_31 : decode cX11_waits 31 = .ok (.iconst 1, 1) := by decide +kernel
theorem dX11_waits_32 : decode cX11_waits 32 = .ok (.goto 4, 3) := by decide +kernel
theorem dX11_waits_35 : decode cX11_waits 35 = .ok (.iconst 0, 1) := by decide +kernel
theorem dX11_waits_36 : decode cX11_waits 36 = .ok (.istore 5, 2) := by decide +kernel
theorem dX11_waits_38 : decode cX11_waits 38 = .ok (.iload 5, 2) := by decide +kernel
theorem dX11_waits_40 : decode cX11_waits 40 = .ok (.ifCond .eq 13, 3) := by decide +kernel
theorem dX11_waits_43 : decode cX11_waits 43 = .ok (.iload 4, 2) := by decide +kernel
theorem dX11_waits_45 : decode cX11_waits 45 = .ok (.iconst 0, 1) := by decide +kernel
theorem dX11_waits_46 : decode cX11_waits 46 = .ok (.iconst 2, 1) := by decide +kernel
theorem dX11_waits_47 : decode cX11_waits 47 = .ok (.invokestatic 101, 3) := by decide +kernel
theorem dX11_waits_50 : decode cX11_waits 50 = .ok (.ifCond .ne 9, 3) := by decide +kernel
theorem dX11_waits_53 : decode cX11_waits 53 = .ok (.bipush (-2), 2) := by decide +kernel
theorem dX11_waits_55 : decode cX11_waits 55 = .ok (.invokestatic 168, 3) := by decide +kernel
theorem dX11_waits_58 : decode cX11_waits 58 = .ok (.lreturn, 1) := by decide +kernel
theorem dX11_waits_59 : decode cX11_waits 59 = .ok (.aload_n 0, 1) := by decide +kernel
theorem dX11_waits_60 : decode cX11_waits 60 = .ok (.getfield 70, 3) := by decide +kernel
theorem dX11_waits_63 : decode cX11_waits 63 = .ok (.iload_n 1, 1) := by decide +kernel
theorem dX11_waits_64 : decode cX11_waits 64 = .ok (.iload_n 2, 1) := by decide +kernel
theorem dX11_waits_65 : decode cX11_waits 65 = .ok (.iload_n 3, 1) := by decide +kernel
theorem dX11_waits_66 : decode cX11_waits 66 = .ok (.invokevirtual 224, 3) := by decide +kernel
theorem dX11_waits_69 : decode cX11_waits 69 = .ok (.istore 6, 2) := by decide +kernel
theorem dX11_waits_71 : decode cX11_waits 71 = .ok (.iload 4, 2) := by decide +kernel
theorem dX11_waits_73 : decode cX11_waits 73 = .ok (.ifCond .ne 9, 3) := by decide +kernel
theorem dX11_waits_76 : decode cX11_waits 76 = .ok (.iload 6, 2) := by decide +kernel
theorem dX11_waits_78 : decode cX11_waits 78 = .ok (.i2l, 1) := by decide +kernel
theorem dX11_waits_79 : decode cX11_waits 79 = .ok (.goto 25, 3) := by decide +kernel
theorem dX11_waits_82 : decode cX11_waits 82 = .ok (.aload_n 0, 1) := by decide +kernel
theorem dX11_waits_83 : decode cX11_waits 83 = .ok (.getfield 70, 3) := by decide +kernel
theorem dX11_waits_86 : decode cX11_waits 86 = .ok (.iload_n 1, 1) := by decide +kernel
theorem dX11_waits_87 : decode cX11_waits 87 = .ok (.iload_n 2, 1) := by decide +kernel
theorem dX11_waits_88 : decode cX11_waits 88 = .ok (.iload_n 3, 1) := by decide +kernel
theorem dX11_waits_89 : decode cX11_waits 89 = .ok (.iload 6, 2) := by decide +kernel
theorem dX11_waits_91 : decode cX11_waits 91 = .ok (.invokevirtual 227, 3) := by decide +kernel
theorem dX11_waits_94 : decode cX11_waits 94 = .ok (.ldc2_w 183, 3) := by decide +kernel
theorem dX11_waits_97 : decode cX11_waits 97 = .ok (.iload 4, 2) := by decide +kernel
theorem dX11_waits_99 : decode cX11_waits 99 = .ok (.iconst 1, 1) := by decide +kernel
theorem dX11_waits_100 : decode cX11_waits 100 = .ok (.isub, 1) := by decide +kernel
theorem dX11_waits_101 : decode cX11_waits 101 = .ok (.invokestatic 185, 3) := by decide +kernel
theorem dX11_waits_104 : decode cX11_waits 104 = .ok (.lreturn, 1) := by decide +kernel
theorem dX11_foot_0 : decode cX11_foot 0 = .ok (.aload_n 0, 1) := by decide +kernel
theorem dX11_foot_1 : decode cX11_foot 1 = .ok (.getfield 24, 3) := by decide +kernel
theorem dX11_foot_4 : decode cX11_foot 4 = .ok (.iload_n 1, 1) := by decide +kernel
theorem dX11_foot_5 : decode cX11_foot 5 = .ok (.invokevirtual 126, 3) := by decide +kernel
theorem dX11_foot_8 : decode cX11_foot 8 = .ok (.ifCond .eq 23, 3) := by decide +kernel
theorem dX11_foot_11 : decode cX11_foot 11 = .ok (.iload_n 2, 1) := by decide +kernel
theorem dX11_foot_12 : decode cX11_foot 12 = .ok (.iconst 0, 1) := by decide +kernel
theorem dX11_foot_13 : decode cX11_foot 13 = .ok (.sipush 1999, 3) := by decide +kernel
theorem dX11_foot_16 : decode cX11_foot 16 = .ok (.invokestatic 101, 3) := by decide +kernel
theorem dX11_foot_19 : decode cX11_foot 19 = .ok (.ifCond .eq 12, 3) := by decide +kernel
theorem dX11_foot_22 : decode cX11_foot 22 = .ok (.iload_n 3, 1) := by decide +kernel
theorem dX11_foot_23 : decode cX11_foot 23 = .ok (.iconst 0, 1) := by decide +kernel
theorem dX11_foot_24 : decode cX11_foot 24 = .ok (.iconst 1, 1) := by decide +kernel
theorem dX11_foot_25 : decode cX11_foot 25 = .ok (.invokestatic 101, 3) := by decide +kernel
theorem dX11_foot_28 : decode cX11_foot 28 = .ok (.ifCond .ne 9, 3) := by decide +kernel
theorem dX11_foot_31 : decode cX11_foot 31 = .ok (.bipush (-2), 2) := by decide +kernel
theorem dX11_foot_33 : decode cX11_foot 33 = .ok (.invokestatic 168, 3) := by decide +kernel
theorem dX11_foot_36 : decode cX11_foot 36 = .ok (.lreturn, 1) := by decide +kernel
theorem dX11_foot_37 : decode cX11_foot 37 = .ok (.aload_n 0, 1) := by decide +kernel
theorem dX11_foot_38 : decode cX11_foot 38 = .ok (.getfield 47, 3) := by decide +kernel
theorem dX11_foot_41 : decode cX11_foot 41 = .ok (.iload_n 1, 1) := by decide +kernel
theorem dX11_foot_42 : decode cX11_foot 42 = .ok (.iload_n 2, 1) := by decide +kernel
theorem dX11_foot_43 : decode cX11_foot 43 = .ok (.invokevirtual 231, 3) := by decide +kernel
theorem dX11_foot_46 : decode cX11_foot 46 = .ok (.istore 4, 2) := by decide +kernel
theorem dX11_foot_48 : decode cX11_foot 48 = .ok (.iload 4, 2) := by decide +kernel
theorem dX11_foot_50 : decode cX11_foot 50 = .ok (.aload_n 0, 1) := by decide +kernel
theorem dX11_foot_51 : decode cX11_foot 51 = .ok (.getfield 47, 3) := by decide +kernel
theorem dX11_foot_54 : decode cX11_foot 54 = .ok (.iload_n 1, 1) := by decide +kernel
theorem dX11_foot_55 : decode cX11_foot 55 = .ok (.iload_n 2, 1) := by decide +kernel
theorem dX11_foot_56 : decode cX11_foot 56 = .ok (.invokevirtual 234, 3) := by decide +kernel
theorem dX11_foot_59 : decode cX11_foot 59 = .ok (.iadd, 1) := by decide +kernel
theorem dX11_foot_60 : decode cX11_foot 60 = .ok (.istore 5, 2) := by decide +kernel
theorem dX11_foot_62 : decode cX11_foot 62 = .ok (.iload 5, 2) := by decide +kernel
theorem dX11_foot_64 : decode cX11_foot 64 = .ok (.ifCond .ne 11, 3) := by decide +kernel
theorem dX11_foot_67 : decode cX11_foot 67 = .ok (.bipush (-3), 2) := by decide +kernel
theorem dX11_foot_69 : decode cX11_foot 69 = .ok (.invokestatic 168, 3) := by decide +kernel
theorem dX11_foot_72 : decode cX11_foot 72 = .ok (.goto 13, 3) := by decide +kernel
theorem dX11_foot_75 : decode cX11_foot 75 = .ok (.iload 4, 2) := by decide +kernel
theorem dX11_foot_77 : decode cX11_foot 77 = .ok (.i2l, 1) := by decide +kernel
theorem dX11_foot_78 : decode cX11_foot 78 = .ok (.iload 5, 2) := by decide +kernel
theorem dX11_foot_80 : decode cX11_foot 80 = .ok (.i2l, 1) := by decide +kernel
theorem dX11_foot_81 : decode cX11_foot 81 = .ok (.iload_n 3, 1) := by decide +kernel
theorem dX11_foot_82 : decode cX11_foot 82 = .ok (.invokestatic 185, 3) := by decide +kernel
theorem dX11_foot_85 : decode cX11_foot 85 = .ok (.lreturn, 1) := by decide +kernel
theorem dX11_fell_0 : decode cX11_fell 0 = .ok (.iload_n 1, 1) := by decide +kernel
theorem dX11_fell_1 : decode cX11_fell 1 = .ok (.iload_n 2, 1) := by decide +kernel
theorem dX11_fell_2 : decode cX11_fell 2 = .ok (.iload_n 3, 1) := by decide +kernel
theorem dX11_fell_3 : decode cX11_fell 3 = .ok (.invokestatic 237, 3) := by decide +kernel
theorem dX11_fell_6 : decode cX11_fell 6 = .ok (.ifCond .ne 6, 3) := by decide +kernel
theorem dX11_fell_9 : decode cX11_fell 9 = .ok (.bipush (-2), 2) := by decide +kernel
theorem dX11_fell_11 : decode cX11_fell 11 = .ok (.ireturn, 1) := by decide +kernel
theorem dX11_fell_12 : decode cX11_fell 12 = .ok (.aload_n 0, 1) := by decide +kernel
theorem dX11_fell_13 : decode cX11_fell 13 = .ok (.getfield 86, 3) := by decide +kernel
theorem dX11_fell_16 : decode cX11_fell 16 = .ok (.invokevirtual 240, 3) := by decide +kernel
theorem dX11_fell_19 : decode cX11_fell 19 = .ok (.ifCond .eq 6, 3) := by decide +kernel
theorem dX11_fell_22 : decode cX11_fell 22 = .ok (.bipush (-4), 2) := by decide +kernel
theorem dX11_fell_24 : decode cX11_fell 24 = .ok (.ireturn, 1) := by decide +kernel
theorem dX11_fell_25 : decode cX11_fell 25 = .ok (.aload_n 0, 1) := by decide +kernel
theorem dX11_fell_26 : decode cX11_fell 26 = .ok (.getfield 86, 3) := by decide +kernel
theorem dX11_fell_29 : decode cX11_fell 29 = .ok (.iload_n 1, 1) := by decide +kernel
theorem dX11_fell_30 : decode cX11_fell 30 = .ok (.iload_n 2, 1) := by decide +kernel
theorem dX11_fell_31 : decode cX11_fell 31 = .ok (.iload_n 3, 1) := by decide +kernel
theorem dX11_fell_32 : decode cX11_fell 32 = .ok (.invokevirtual 241, 3) := by decide +kernel
theorem dX11_fell_35 : decode cX11_fell 35 = .ok (.aload_n 0, 1) := by decide +kernel
theorem dX11_fell_36 : decode cX11_fell 36 = .ok (.getfield 86, 3) := by decide +kernel
theorem dX11_fell_39 : decode cX11_fell 39 = .ok (.invokevirtual 245, 3) := by decide +kernel
theorem dX11_fell_42 : decode cX11_fell 42 = .ok (.ireturn, 1) := by decide +kernel
theorem dX11_forget_0 : decode cX11_forget 0 = .ok (.aload_n 0, 1) := by decide +kernel
theorem dX11_forget_1 : decode cX11_forget 1 = .ok (.getfield 86, 3) := by decide +kernel
theorem dX11_forget_4 : decode cX11_forget 4 = .ok (.invokevirtual 245, 3) := by decide +kernel
theorem dX11_forget_7 : decode cX11_forget 7 = .ok (.istore_n 1, 1) := by decide +kernel
theorem dX11_forget_8 : decode cX11_forget 8 = .ok (.aload_n 0, 1) := by decide +kernel
theorem dX11_forget_9 : decode cX11_forget 9 = .ok (.getfield 86, 3) := by decide +kernel
theorem dX11_forget_12 : decode cX11_forget 12 = .ok (.invokevirtual 246, 3) := by decide +kernel
theorem dX11_forget_15 : decode cX11_forget 15 = .ok (.iload_n 1, 1) := by decide +kernel
theorem dX11_forget_16 : decode cX11_forget 16 = .ok (.ireturn, 1) := by decide +kernel
theorem dX11_loose_0 : decode cX11_loose 0 = .ok (.aload_n 0, 1) := by decide +kernel
theorem dX11_loose_1 : decode cX11_loose 1 = .ok (.getfield 24, 3) := by decide +kernel
theorem dX11_loose_4 : decode cX11_loose 4 = .ok (.iload_n 1, 1) := by decide +kernel
theorem dX11_loose_5 : decode cX11_loose 5 = .ok (.invokevirtual 126, 3) := by decide +kernel
theorem dX11_loose_8 : decode cX11_loose 8 = .ok (.ifCond .ne 6, 3) := by decide +kernel
theorem dX11_loose_11 : decode cX11_loose 11 = .ok (.bipush (-2), 2) := by decide +kernel
theorem dX11_loose_13 : decode cX11_loose 13 = .ok (.ireturn, 1) := by decide +kernel
theorem dX11_loose_14 : decode cX11_loose 14 = .ok (.aload_n 0, 1) := by decide +kernel
theorem dX11_loose_15 : decode cX11_loose 15 = .ok (.getfield 86, 3) := by decide +kernel
theorem dX11_loose_18 : decode cX11_loose 18 = .ok (.iload_n 1, 1) := by decide +kernel
theorem dX11_loose_19 : decode cX11_loose 19 = .ok (.aload_n 0, 1) := by decide +kernel
theorem dX11_loose_20 : decode cX11_loose 20 = .ok (.getfield 31, 3) := by decide +kernel
theorem dX11_loose_23 : decode cX11_loose 23 = .ok (.invokevirtual 249, 3) := by decide +kernel
theorem dX11_loose_26 : decode cX11_loose 26 = .ok (.ireturn, 1) := by decide +kernel
theorem dX11_read_0 : decode cX11_read 0 = .ok (.aload_n 0, 1) := by decide +kernel
theorem dX11_read_1 : decode cX11_read 1 = .ok (.iload_n 1, 1) := by decide +kernel
theorem dX11_read_2 : decode cX11_read 2 = .ok (.invokevirtual 253, 3) := by decide +kernel
theorem dX11_read_5 : decode cX11_read 5 = .ok (.astore_n 2, 1) := by decide +kernel
theorem dX11_read_6 : decode cX11_read 6 = .ok (.aload_n 2, 1) := by decide +kernel
theorem dX11_read_7 : decode cX11_read 7 = .ok (.ifnonnull 6, 3) := by decide +kernel
theorem dX11_read_10 : decode cX11_read 10 = .ok (.bipush (-2), 2) := by decide +kernel
theorem dX11_read_12 : decode cX11_read 12 = .ok (.ireturn, 1) := by decide +kernel
theorem dX11_read_13 : decode cX11_read 13 = .ok (.aload_n 2, 1) := by decide +kernel
theorem dX11_read_14 : decode cX11_read 14 = .ok (.invokevirtual 257, 3) := by decide +kernel
theorem dX11_read_17 : decode cX11_read 17 = .ok (.ifCond .eq 9, 3) := by decide +kernel
theorem dX11_read_20 : decode cX11_read 20 = .ok (.aload_n 0, 1) := by decide +kernel
theorem dX11_read_21 : decode cX11_read 21 = .ok (.iconst 1, 1) := by decide +kernel
theorem dX11_read_22 : decode cX11_read 22 = .ok (.invokevirtual 260, 3) := by decide +kernel
theorem dX11_read_25 : decode cX11_read 25 = .ok (.ireturn, 1) := by decide +kernel
theorem dX11_read_26 : decode cX11_read 26 = .ok (.iconst 0, 1) := by decide +kernel
theorem dX11_read_27 : decode cX11_read 27 = .ok (.istore_n 3, 1) := by decide +kernel
theorem dX11_read_28 : decode cX11_read 28 = .ok (.iconst 0, 1) := by decide +kernel
theorem dX11_read_29 : decode cX11_read 29 = .ok (.istore 4, 2) := by decide +kernel
theorem dX11_read_31 : decode cX11_read 31 = .ok (.iload 4, 2) := by decide +kernel
theorem dX11_read_33 : decode cX11_read 33 = .ok (.iconst 2, 1) := by decide +kernel
theorem dX11_read_34 : decode cX11_read 34 = .ok (.iadd, 1) := by decide +kernel
theorem dX11_read_35 : decode cX11_read 35 = .ok (.aload_n 2, 1) := by decide +kernel
theorem dX11_read_36 : decode cX11_read 36 = .ok (.invokevirtual 263, 3) := by decide +kernel
theorem dX11_read_39 : decode cX11_read 39 = .ok (.if_icmp .ge 82, 3) := by decide +kernel
theorem dX11_read_42 : decode cX11_read 42 = .ok (.aload_n 0, 1) := by decide +kernel
theorem dX11_read_43 : decode cX11_read 43 = .ok (.getfield 86, 3) := by decide +kernel
theorem dX11_read_46 : decode cX11_read 46 = .ok (.invokevirtual 240, 3) := by decide +kernel
theorem dX11_read_49 : decode cX11_read 49 = .ok (.ifCond .ne 72, 3) := by decide +kernel
theorem dX11_read_52 : decode cX11_read 52 = .ok (.aload_n 2, 1) := by decide +kernel
theorem dX11_read_53 : decode cX11_read 53 = .ok (.iload 4, 2) := by decide +kernel
theorem dX11_read_55 : decode cX11_read 55 = .ok (.invokevirtual 264, 3) := by decide +kernel
theorem dX11_read_58 : decode cX11_read 58 = .ok (.aload_n 2, 1) := by decide +kernel
theorem dX11_read_59 : decode cX11_read 59 = .ok (.iload 4, 2) := by decide +kernel
theorem dX11_read_61 : decode cX11_read 61 = .ok (.iconst 1, 1) := by decide +kernel
theorem dX11_read_62 : decode cX11_read 62 = .ok (.iadd, 1) := by decide +kernel
theorem dX11_read_63 : decode cX11_read 63 = .ok (.invokevirtual 264, 3) := by decide +kernel
theorem dX11_read_66 : decode cX11_read 66 = .ok (.aload_n 2, 1) := by decide +kernel
theorem dX11_read_67 : decode cX11_read 67 = .ok (.iload 4, 2) := by decide +kernel
theorem dX11_read_69 : decode cX11_read 69 = .ok (.iconst 2, 1) := by decide +kernel
theorem dX11_read_70 : decode cX11_read 70 = .ok (.iadd, 1) := by decide +kernel
theorem dX11_read_71 : decode cX11_read 71 = .ok (.invokevirtual 264, 3) := by decide +kernel
theorem dX11_read_74 : decode cX11_read 74 = .ok (.invokestatic 237, 3) := by decide +kernel
theorem dX11_read_77 : decode cX11_read 77 = .ok (.ifCond .ne 6, 3) := by decide +kernel
theorem dX11_read_80 : decode cX11_read 80 = .ok (.goto 41, 3) := by decide +kernel
theorem dX11_read_83 : decode cX11_read 83 = .ok (.aload_n 0, 1) := by decide +kernel
theorem dX11_read_84 : decode cX11_read 84 = .ok (.getfield 86, 3) := by decide +kernel
theorem dX11_read_87 : decode cX11_read 87 = .ok (.aload_n 2, 1) := by decide +kernel
theorem dX11_read_88 : decode cX11_read 88 = .ok (.iload 4, 2) := by decide +kernel
theorem dX11_read_90 : decode cX11_read 90 = .ok (.invokevirtual 264, 3) := by decide +kernel
theorem dX11_read_93 : decode cX11_read 93 = .ok (.aload_n 2, 1) := by decide +kernel
theorem dX11_read_94 : decode cX11_read 94 = .ok (.iload 4, 2) := by decide +kernel
theorem dX11_read_96 : decode cX11_read 96 = .ok (.iconst 1, 1) := by decide +kernel
theorem dX11_read_97 : decode cX11_read 97 = .ok (.iadd, 1) := by decide +kernel
theorem dX11_read_98 : decode cX11_read 98 = .ok (.invokevirtual 264, 3) := by decide +kernel
theorem dX11_read_101 : decode cX11_read 101 = .ok (.aload_n 2, 1) := by decide +kernel
theorem dX11_read_102 : decode cX11_read 102 = .ok (.iload 4, 2) := by decide +kernel
theorem dX11_read_104 : decode cX11_read 104 = .ok (.iconst 2, 1) := by decide +kernel
theorem dX11_read_105 : decode cX11_read 105 = .ok (.iadd, 1) := by decide +kernel
theorem dX11_read_106 : decode cX11_read 106 = .ok (.invokevirtual 264, 3) := by decide +kernel
theorem dX11_read_109 : decode cX11_read 109 = .ok (.invokevirtual 241, 3) := by decide +kernel
theorem dX11_read_112 : decode cX11_read 112 = .ok (.iinc 3 1, 3) := by decide +kernel
theorem dX11_read_115 : decode cX11_read 115 = .ok (.iinc 4 3, 3) := by decide +kernel
theorem dX11_read_118 : decode cX11_read 118 = .ok (.goto (-87), 3) := by decide +kernel
theorem dX11_read_121 : decode cX11_read 121 = .ok (.iload_n 3, 1) := by decide +kernel
theorem dX11_read_122 : decode cX11_read 122 = .ok (.ireturn, 1) := by decide +kernel
theorem dX11_morning_0 : decode cX11_morning 0 = .ok (.aload_n 0, 1) := by decide +kernel
theorem dX11_morning_1 : decode cX11_morning 1 = .ok (.getfield 79, 3) := by decide +kernel
theorem dX11_morning_4 : decode cX11_morning 4 = .ok (.iload_n 1, 1) := by decide +kernel
theorem dX11_morning_5 : decode cX11_morning 5 = .ok (.invokevirtual 267, 3) := by decide +kernel
theorem dX11_morning_8 : decode cX11_morning 8 = .ok (.ireturn, 1) := by decide +kernel
theorem dX11_sheet_0 : decode cX11_sheet 0 = .ok (.aload_n 0, 1) := by decide +kernel
theorem dX11_sheet_1 : decode cX11_sheet 1 = .ok (.iload_n 1, 1) := by decide +kernel
theorem dX11_sheet_2 : decode cX11_sheet 2 = .ok (.invokevirtual 253, 3) := by decide +kernel
theorem dX11_sheet_5 : decode cX11_sheet 5 = .ok (.astore 4, 2) := by decide +kernel
theorem dX11_sheet_7 : decode cX11_sheet 7 = .ok (.aload 4, 2) := by decide +kernel
theorem dX11_sheet_9 : decode cX11_sheet 9 = .ok (.ifnull 16, 3) := by decide +kernel
theorem dX11_sheet_12 : decode cX11_sheet 12 = .ok (.iload_n 2, 1) := by decide +kernel
theorem dX11_sheet_13 : decode cX11_sheet 13 = .ok (.invokestatic 270, 3) := by decide +kernel
theorem dX11_sheet_16 : decode cX11_sheet 16 = .ok (.ifCond .eq 9, 3) := by decide +kernel
theorem dX11_sheet_19 : decode cX11_sheet 19 = .ok (.iload_n 3, 1) := by decide +kernel
theorem dX11_sheet_20 : decode cX11_sheet 20 = .ok (.bipush 60, 2) := by decide +kernel
theorem dX11_sheet_22 : decode cX11_sheet 22 = .ok (.if_icmp .le 6, 3) := by decide +kernel
theorem dX11_sheet_25 : decode cX11_sheet 25 = .ok (.bipush (-2), 2) := by decide +kernel
theorem dX11_sheet_27 : decode cX11_sheet 27 = .ok (.ireturn, 1) := by decide +kernel
theorem dX11_sheet_28 : decode cX11_sheet 28 = .ok (.iload_n 3, 1) := by decide +kernel
theorem dX11_sheet_29 : decode cX11_sheet 29 = .ok (.ifCond .ge 9, 3) := by decide +kernel
theorem dX11_sheet_32 : decode cX11_sheet 32 = .ok (.aload_n 0, 1) := by decide +kernel
theorem dX11_sheet_33 : decode cX11_sheet 33 = .ok (.iconst 5, 1) := by decide +kernel
theorem dX11_sheet_34 : decode cX11_sheet 34 = .ok (.invokevirtual 260, 3) := by decide +kernel
theorem dX11_sheet_37 : decode cX11_sheet 37 = .ok (.ireturn, 1) := by decide +kernel
theorem dX11_sheet_38 : decode cX11_sheet 38 = .ok (.aload 4, 2) := by decide +kernel
theorem dX11_sheet_40 : decode cX11_sheet 40 = .ok (.iload_n 2, 1) := by decide +kernel
theorem dX11_sheet_41 : decode cX11_sheet 41 = .ok (.iload_n 3, 1) := by decide +kernel
theorem dX11_sheet_42 : decode cX11_sheet 42 = .ok (.invokevirtual 273, 3) := by decide +kernel
theorem dX11_sheet_45 : decode cX11_sheet 45 = .ok (.iload_n 3, 1) := by decide +kernel
theorem dX11_sheet_46 : decode cX11_sheet 46 = .ok (.ireturn, 1) := by decide +kernel
theorem dX11_lose_0 : decode cX11_lose 0 = .ok (.aload_n 0, 1) := by decide +kernel
theorem dX11_lose_1 : decode cX11_lose 1 = .ok (.iload_n 1, 1) := by decide +kernel
theorem dX11_lose_2 : decode cX11_lose 2 = .ok (.invokevirtual 253, 3) := by decide +kernel
theorem dX11_lose_5 : decode cX11_lose 5 = .ok (.astore_n 2, 1) := by decide +kernel
theorem dX11_lose_6 : decode cX11_lose 6 = .ok (.aload_n 2, 1) := by decide +kernel
theorem dX11_lose_7 : decode cX11_lose 7 = .ok (.ifnonnull 6, 3) := by decide +kernel
theorem dX11_lose_10 : decode cX11_lose 10 = .ok (.bipush (-2), 2) := by decide +kernel
theorem dX11_lose_12 : decode cX11_lose 12 = .ok (.ireturn, 1) := by decide +kernel
theorem dX11_lose_13 : decode cX11_lose 13 = .ok (.aload_n 2, 1) := by decide +kernel
theorem dX11_lose_14 : decode cX11_lose 14 = .ok (.invokevirtual 257, 3) := by decide +kernel
theorem dX11_lose_17 : decode cX11_lose 17 = .ok (.ifCond .eq 9, 3) := by decide +kernel
theorem dX11_lose_20 : decode cX11_lose 20 = .ok (.aload_n 0, 1) := by decide +kernel
theorem dX11_lose_21 : decode cX11_lose 21 = .ok (.iconst 1, 1) := by decide +kernel
theorem dX11_lose_22 : decode cX11_lose 22 = .ok (.invokevirtual 260, 3) := by decide +kernel
theorem dX11_lose_25 : decode cX11_lose 25 = .ok (.ireturn, 1) := by decide +kernel
theorem dX11_lose_26 : decode cX11_lose 26 = .ok (.aload_n 2, 1) := by decide +kernel
theorem dX11_lose_27 : decode cX11_lose 27 = .ok (.invokevirtual 263, 3) := by decide +kernel
theorem dX11_lose_30 : decode cX11_lose 30 = .ok (.istore_n 3, 1) := by decide +kernel
theorem dX11_lose_31 : decode cX11_lose 31 = .ok (.aload_n 2, 1) := by decide +kernel
theorem dX11_lose_32 : decode cX11_lose 32 = .ok (.invokevirtual 277, 3) := by decide +kernel
theorem dX11_lose_35 : decode cX11_lose 35 = .ok (.iload_n 3, 1) := by decide +kernel
theorem dX11_lose_36 : decode cX11_lose 36 = .ok (.ireturn, 1) := by decide +kernel
theorem dX11_lay_0 : decode cX11_lay 0 = .ok (.aload_n 0, 1) := by decide +kernel
theorem dX11_lay_1 : decode cX11_lay 1 = .ok (.iload_n 1, 1) := by decide +kernel
theorem dX11_lay_2 : decode cX11_lay 2 = .ok (.invokevirtual 253, 3) := by decide +kernel
theorem dX11_lay_5 : decode cX11_lay 5 = .ok (.astore 5, 2) := by decide +kernel
theorem dX11_lay_7 : decode cX11_lay 7 = .ok (.aload 5, 2) := by decide +kernel
theorem dX11_lay_9 : decode cX11_lay 9 = .ok (.ifnull 10, 3) := by decide +kernel
theorem dX11_lay_12 : decode cX11_lay 12 = .ok (.iload_n 2, 1) := by decide +kernel
theorem dX11_lay_13 : decode cX11_lay 13 = .ok (.invokestatic 270, 3) := by decide +kernel
theorem dX11_lay_16 : decode cX11_lay 16 = .ok (.ifCond .ne 6, 3) := by decide +kernel
theorem dX11_lay_19 : decode cX11_lay 19 = .ok (.bipush (-2), 2) := by decide +kernel
theorem dX11_lay_21 : decode cX11_lay 21 = .ok (.ireturn, 1) := by decide +kernel
theorem dX11_lay_22 : decode cX11_lay 22 = .ok (.aload 5, 2) := by decide +kernel
theorem dX11_lay_24 : decode cX11_lay 24 = .ok (.iload_n 2, 1) := by decide +kernel
theorem dX11_lay_25 : decode cX11_lay 25 = .ok (.iload_n 3, 1) := by decide +kernel
theorem dX11_lay_26 : decode cX11_lay 26 = .ok (.invokevirtual 280, 3) := by decide +kernel
theorem dX11_lay_29 : decode cX11_lay 29 = .ok (.istore 6, 2) := by decide +kernel
theorem dX11_lay_31 : decode cX11_lay 31 = .ok (.iload 6, 2) := by decide +kernel
theorem dX11_lay_33 : decode cX11_lay 33 = .ok (.ifCond .eq 10, 3) := by decide +kernel
theorem dX11_lay_36 : decode cX11_lay 36 = .ok (.aload_n 0, 1) := by decide +kernel
theorem dX11_lay_37 : decode cX11_lay 37 = .ok (.iload 6, 2) := by decide +kernel
theorem dX11_lay_39 : decode cX11_lay 39 = .ok (.invokevirtual 260, 3) := by decide +kernel
theorem dX11_lay_42 : decode cX11_lay 42 = .ok (.ireturn, 1) := by decide +kernel
theorem dX11_lay_43 : decode cX11_lay 43 = .ok (.aload 5, 2) := by decide +kernel
theorem dX11_lay_45 : decode cX11_lay 45 = .ok (.iload_n 3, 1) := by decide +kernel
theorem dX11_lay_46 : decode cX11_lay 46 = .ok (.iload 4, 2) := by decide +kernel
theorem dX11_lay_48 : decode cX11_lay 48 = .ok (.invokevirtual 283, 3) := by decide +kernel
theorem dX11_lay_51 : decode cX11_lay 51 = .ok (.iconst 1, 1) := by decide +kernel
theorem dX11_lay_52 : decode cX11_lay 52 = .ok (.ireturn, 1) := by decide +kernel
theorem dX11_get_0 : decode cX11_get 0 = .ok (.aload_n 0, 1) := by decide +kernel
theorem dX11_get_1 : decode cX11_get 1 = .ok (.iload_n 1, 1) := by decide +kernel
theorem dX11_get_2 : decode cX11_get 2 = .ok (.invokevirtual 253, 3) := by decide +kernel
theorem dX11_get_5 : decode cX11_get 5 = .ok (.astore 4, 2) := by decide +kernel
theorem dX11_get_7 : decode cX11_get 7 = .ok (.aload 4, 2) := by decide +kernel
theorem dX11_get_9 : decode cX11_get 9 = .ok (.ifnull 10, 3) := by decide +kernel
theorem dX11_get_12 : decode cX11_get 12 = .ok (.iload_n 2, 1) := by decide +kernel
theorem dX11_get_13 : decode cX11_get 13 = .ok (.invokestatic 270, 3) := by decide +kernel
theorem dX11_get_16 : decode cX11_get 16 = .ok (.ifCond .ne 7, 3) := by decide +kernel
theorem dX11_get_19 : decode cX11_get 19 = .ok (.ldc_w 286, 3) := by decide +kernel
theorem dX11_get_22 : decode cX11_get 22 = .ok (.ireturn, 1) := by decide +kernel
theorem dX11_get_23 : decode cX11_get 23 = .ok (.aload 4, 2) := by decide +kernel
theorem dX11_get_25 : decode cX11_get 25 = .ok (.iload_n 2, 1) := by decide +kernel
theorem dX11_get_26 : decode cX11_get 26 = .ok (.iload_n 3, 1) := by decide +kernel
theorem dX11_get_27 : decode cX11_get 27 = .ok (.invokevirtual 280, 3) := by decide +kernel
theorem dX11_get_30 : decode cX11_get 30 = .ok (.istore 5, 2) := by decide +kernel
theorem dX11_get_32 : decode cX11_get 32 = .ok (.iload 5, 2) := by decide +kernel
theorem dX11_get_34 : decode cX11_get 34 = .ok (.ifCond .eq 14, 3) := by decide +kernel
theorem dX11_get_37 : decode cX11_get 37 = .ok (.aload_n 0, 1) := by decide +kernel
theorem dX11_get_38 : decode cX11_get 38 = .ok (.iload 5, 2) := by decide +kernel
theorem dX11_get_40 : decode cX11_get 40 = .ok (.invokevirtual 260, 3) := by decide +kernel
theorem dX11_get_43 : decode cX11_get 43 = .ok (.pop, 1) := by decide +kernel
theorem dX11_get_44 : decode cX11_get 44 = .ok (.ldc_w 286, 3) := by decide +kernel
theorem dX11_get_47 : decode cX11_get 47 = .ok (.ireturn, 1) := by decide +kernel
theorem dX11_get_48 : decode cX11_get 48 = .ok (.aload 4, 2) := by decide +kernel
theorem dX11_get_50 : decode cX11_get 50 = .ok (.iload_n 3, 1) := by decide +kernel
theorem dX11_get_51 : decode cX11_get 51 = .ok (.invokevirtual 264, 3) := by decide +kernel
theorem dX11_get_54 : decode cX11_get 54 = .ok (.ireturn, 1) := by decide +kernel
theorem dX11_copy_0 : decode cX11_copy 0 = .ok (.aload_n 0, 1) := by decide +kernel
theorem dX11_copy_1 : decode cX11_copy 1 = .ok (.iload_n 1, 1) := by decide +kernel
theorem dX11_copy_2 : decode cX11_copy 2 = .ok (.invokevirtual 253, 3) := by decide +kernel
theorem dX11_copy_5 : decode cX11_copy 5 = .ok (.astore 6, 2) := by decide +kernel
theorem dX11_copy_7 : decode cX11_copy 7 = .ok (.aload_n 0, 1) := by decide +kernel
theorem dX11_copy_8 : decode cX11_copy 8 = .ok (.iload_n 3, 1) := by decide +kernel
theorem dX11_copy_9 : decode cX11_copy 9 = .ok (.invokevirtual 253, 3) := by decide +kernel
theorem dX11_copy_12 : decode cX11_copy 12 = .ok (.astore 7, 2) := by decide +kernel
theorem dX11_copy_14 : decode cX11_copy 14 = .ok (.aload 6, 2) := by decide +kernel
theorem dX11_copy_16 : decode cX11_copy 16 = .ok (.ifnull 8, 3) := by decide +kernel
theorem dX11_copy_19 : decode cX11_copy 19 = .ok (.aload 7, 2) := by decide +kernel
theorem dX11_copy_21 : decode cX11_copy 21 = .ok (.ifnonnull 6, 3) := by decide +kernel
theorem dX11_copy_24 : decode cX11_copy 24 = .ok (.bipush (-2), 2) := by decide +kernel
theorem dX11_copy_26 : decode cX11_copy 26 = .ok (.ireturn, 1) := by decide +kernel
theorem dX11_copy_27 : decode cX11_copy 27 = .ok (.aload 6, 2) := by decide +kernel
theorem dX11_copy_29 : decode cX11_copy 29 = .ok (.invokevirtual 257, 3) := by decide +kernel
theorem dX11_copy_32 : decode cX11_copy 32 = .ok (.ifCond .ne 11, 3) := by decide +kernel
theorem dX11_copy_35 : decode cX11_copy 35 = .ok (.aload 7, 2) := by decide +kernel
theorem dX11_copy_37 : decode cX11_copy 37 = .ok (.invokevirtual 257, 3) := by decide +kernel
theorem dX11_copy_40 : decode cX11_copy 40 = .ok (.ifCond .eq 9, 3) := by decide +kernel
theorem dX11_copy_43 : decode cX11_copy 43 = .ok (.aload_n 0, 1) := by decide +kernel
theorem dX11_copy_44 : decode cX11_copy 44 = .ok (.iconst 1, 1) := by decide +kernel
theorem dX11_copy_45 : decode cX11_copy 45 = .ok (.invokevirtual 260, 3) := by decide +kernel
theorem dX11_copy_48 : decode cX11_copy 48 = .ok (.ireturn, 1) := by decide +kernel
theorem dX11_copy_49 : decode cX11_copy 49 = .ok (.aload 6, 2) := by decide +kernel
theorem dX11_copy_51 : decode cX11_copy 51 = .ok (.aload 7, 2) := by decide +kernel
theorem dX11_copy_53 : decode cX11_copy 53 = .ok (.invokevirtual 287, 3) := by decide +kernel
theorem dX11_copy_56 : decode cX11_copy 56 = .ok (.ifCond .ne 9, 3) := by decide +kernel
theorem dX11_copy_59 : decode cX11_copy 59 = .ok (.aload_n 0, 1) := by decide +kernel
theorem dX11_copy_60 : decode cX11_copy 60 = .ok (.iconst 4, 1) := by decide +kernel
theorem dX11_copy_61 : decode cX11_copy 61 = .ok (.invokevirtual 260, 3) := by decide +kernel
theorem dX11_copy_64 : decode cX11_copy 64 = .ok (.ireturn, 1) := by decide +kernel
theorem dX11_copy_65 : decode cX11_copy 65 = .ok (.aload 6, 2) := by decide +kernel
theorem dX11_copy_67 : decode cX11_copy 67 = .ok (.iload_n 2, 1) := by decide +kernel
theorem dX11_copy_68 : decode cX11_copy 68 = .ok (.iload 5, 2) := by decide +kernel
theorem dX11_copy_70 : decode cX11_copy 70 = .ok (.invokevirtual 291, 3) := by decide +kernel
theorem dX11_copy_73 : decode cX11_copy 73 = .ok (.ifCond .eq 15, 3) := by decide +kernel
theorem dX11_copy_76 : decode cX11_copy 76 = .ok (.aload 7, 2) := by decide +kernel
theorem dX11_copy_78 : decode cX11_copy 78 = .ok (.iload 4, 2) := by decide +kernel
theorem dX11_copy_80 : decode cX11_copy 80 = .ok (.iload 5, 2) := by decide +kernel
theorem dX11_copy_82 : decode cX11_copy 82 = .ok (.invokevirtual 291, 3) := by decide +kernel
theorem dX11_copy_85 : decode cX11_copy 85 = .ok (.ifCond .ne 9, 3) := by decide +kernel
theorem dX11_copy_88 : decode cX11_copy 88 = .ok (.aload_n 0, 1) := by decide +kernel
theorem dX11_copy_89 : decode cX11_copy 89 = .ok (.iconst 2, 1) := by decide +kernel
theorem dX11_copy_90 : decode cX11_copy 90 = .ok (.invokevirtual 260, 3) := by decide +kernel
theorem dX11_copy_93 : decode cX11_copy 93 = .ok (.ireturn, 1) := by decide +kernel
theorem dX11_copy_94 : decode cX11_copy 94 = .ok (.aload 7, 2) := by decide +kernel
theorem dX11_copy_96 : decode cX11_copy 96 = .ok (.aload 6, 2) := by decide +kernel
theorem dX11_copy_98 : decode cX11_copy 98 = .ok (.iload_n 2, 1) := by decide +kernel
theorem dX11_copy_99 : decode cX11_copy 99 = .ok (.iload 4, 2) := by decide +kernel
theorem dX11_copy_101 : decode cX11_copy 101 = .ok (.iload 5, 2) := by decide +kernel
theorem dX11_copy_103 : decode cX11_copy 103 = .ok (.invokevirtual 294, 3) := by decide +kernel
theorem dX11_copy_106 : decode cX11_copy 106 = .ok (.iconst 1, 1) := by decide +kernel
theorem dX11_copy_107 : decode cX11_copy 107 = .ok (.ireturn, 1) := by decide +kernel
theorem dX11_write_0 : decode cX11_write 0 = .ok (.aload_n 0, 1) := by decide +kernel
theorem dX11_write_1 : decode cX11_write 1 = .ok (.iload_n 2, 1) := by decide +kernel
theorem dX11_write_2 : decode cX11_write 2 = .ok (.invokevirtual 253, 3) := by decide +kernel
theorem dX11_write_5 : decode cX11_write 5 = .ok (.astore_n 3, 1) := by decide +kernel
theorem dX11_write_6 : decode cX11_write 6 = .ok (.aload_n 3, 1) := by decide +kernel
theorem dX11_write_7 : decode cX11_write 7 = .ok (.ifnull 14, 3) := by decide +kernel
theorem dX11_write_10 : decode cX11_write 10 = .ok (.iload_n 1, 1) := by decide +kernel
theorem dX11_write_11 : decode cX11_write 11 = .ok (.iconst 0, 1) := by decide +kernel
theorem dX11_write_12 : decode cX11_write 12 = .ok (.sipush 1999, 3) := by decide +kernel
theorem dX11_write_15 : decode cX11_write 15 = .ok (.invokestatic 101, 3) := by decide +kernel
theorem dX11_write_18 : decode cX11_write 18 = .ok (.ifCond .ne 6, 3) := by decide +kernel
theorem dX11_write_21 : decode cX11_write 21 = .ok (.bipush (-2), 2) := by decide +kernel
theorem dX11_write_23 : decode cX11_write 23 = .ok (.ireturn, 1) := by decide +kernel
theorem dX11_write_24 : decode cX11_write 24 = .ok (.aload_n 3, 1) := by decide +kernel
theorem dX11_write_25 : decode cX11_write 25 = .ok (.invokevirtual 257, 3) := by decide +kernel
theorem dX11_write_28 : decode cX11_write 28 = .ok (.ifCond .eq 9, 3) := by decide +kernel
theorem dX11_write_31 : decode cX11_write 31 = .ok (.aload_n 0, 1) := by decide +kernel
theorem dX11_write_32 : decode cX11_write 32 = .ok (.iconst 1, 1) := by decide +kernel
theorem dX11_write_33 : decode cX11_write 33 = .ok (.invokevirtual 260, 3) := by decide +kernel
theorem dX11_write_36 : decode cX11_write 36 = .ok (.ireturn, 1) := by decide +kernel
theorem dX11_write_37 : decode cX11_write 37 = .ok (.aload_n 3, 1) := by decide +kernel
theorem dX11_write_38 : decode cX11_write 38 = .ok (.invokevirtual 263, 3) := by decide +kernel
theorem dX11_write_41 : decode cX11_write 41 = .ok (.aload_n 0, 1) := by decide +kernel
theorem dX11_write_42 : decode cX11_write 42 = .ok (.getfield 31, 3) := by decide +kernel
theorem dX11_write_45 : decode cX11_write 45 = .ok (.invokevirtual 216, 3) := by decide +kernel
theorem dX11_write_48 : decode cX11_write 48 = .ok (.invokestatic 204, 3) := by decide +kernel
theorem dX11_write_51 : decode cX11_write 51 = .ok (.istore 4, 2) := by decide +kernel
theorem dX11_write_53 : decode cX11_write 53 = .ok (.iconst 0, 1) := by decide +kernel
theorem dX11_write_54 : decode cX11_write 54 = .ok (.istore 5, 2) := by decide +kernel
theorem dX11_write_56 : decode cX11_write 56 = .ok (.iload 5, 2) := by decide +kernel
theorem dX11_write_58 : decode cX11_write 58 = .ok (.iload 4, 2) := by decide +kernel
theorem dX11_write_60 : decode cX11_write 60 = .ok (.if_icmp .ge 25, 3) := by decide +kernel
theorem dX11_write_63 : decode cX11_write 63 = .ok (.aload_n 3, 1) := by decide +kernel
theorem dX11_write_64 : decode cX11_write 64 = .ok (.iload 5, 2) := by decide +kernel
theorem dX11_write_66 : decode cX11_write 66 = .ok (.aload_n 0, 1) := by decide +kernel
theorem dX11_write_67 : decode cX11_write 67 = .ok (.getfield 47, 3) := by decide +kernel
theorem dX11_write_70 : decode cX11_write 70 = .ok (.iload 5, 2) := by decide +kernel
theorem dX11_write_72 : decode cX11_write 72 = .ok (.iload_n 1, 1) := by decide +kernel
theorem dX11_write_73 : decode cX11_write 73 = .ok (.invokevirtual 158, 3) := by decide +kernel
theorem dX11_write_76 : decode cX11_write 76 = .ok (.invokevirtual 283, 3) := by decide +kernel
theorem dX11_write_79 : decode cX11_write 79 = .ok (.iinc 5 1, 3) := by decide +kernel
theorem dX11_write_82 : decode cX11_write 82 = .ok (.goto (-26), 3) := by decide +kernel
theorem dX11_write_85 : decode cX11_write 85 = .ok (.iload 4, 2) := by decide +kernel
theorem dX11_write_87 : decode cX11_write 87 = .ok (.ireturn, 1) := by decide +kernel
theorem dX11_count_0 : decode cX11_count 0 = .ok (.iload_n 1, 1) := by decide +kernel
theorem dX11_count_1 : decode cX11_count 1 = .ok (.tableswitch 120 0 8 #[51, 59, 67, 75, 83, 91, 99, 107, 115], 51) := by decide +kernel
theorem dX11_count_52 : decode cX11_count 52 = .ok (.aload_n 0, 1) := by decide +kernel
theorem dX11_count_53 : decode cX11_count 53 = .ok (.getfield 24, 3) := by decide +kernel
theorem dX11_count_56 : decode cX11_count 56 = .ok (.getfield 298, 3) := by decide +kernel
theorem dX11_count_59 : decode cX11_count 59 = .ok (.ireturn, 1) := by decide +kernel
theorem dX11_count_60 : decode cX11_count 60 = .ok (.aload_n 0, 1) := by decide +kernel
theorem dX11_count_61 : decode cX11_count 61 = .ok (.getfield 31, 3) := by decide +kernel
theorem dX11_count_64 : decode cX11_count 64 = .ok (.invokevirtual 216, 3) := by decide +kernel
theorem dX11_count_67 : decode cX11_count 67 = .ok (.ireturn, 1) := by decide +kernel
theorem dX11_count_68 : decode cX11_count 68 = .ok (.aload_n 0, 1) := by decide +kernel
theorem dX11_count_69 : decode cX11_count 69 = .ok (.getfield 14, 3) := by decide +kernel
theorem dX11_count_72 : decode cX11_count 72 = .ok (.invokevirtual 115, 3) := by decide +kernel
theorem dX11_count_75 : decode cX11_count 75 = .ok (.ireturn, 1) := by decide +kernel
theorem dX11_count_76 : decode cX11_count 76 = .ok (.aload_n 0, 1) := by decide +kernel
theorem dX11_count_77 : decode cX11_count 77 = .ok (.getfield 18, 3) := by decide +kernel
theorem dX11_count_80 : decode cX11_count 80 = .ok (.invokevirtual 115, 3) := by decide +kernel
theorem dX11_count_83 : decode cX11_count 83 = .ok (.ireturn, 1) := by decide +kernel
theorem dX11_count_84 : decode cX11_count 84 = .ok (.aload_n 0, 1) := by decide +kernel
theorem dX11_count_85 : decode cX11_count 85 = .ok (.getfield 86, 3) := by decide +kernel
theorem dX11_count_88 : decode cX11_count 88 = .ok (.invokevirtual 245, 3) := by decide +kernel
theorem dX11_count_91 : decode cX11_count 91 = .ok (.ireturn, 1) := by decide +kernel
theorem dX11_count_92 : decode cX11_count 92 = .ok (.aload_n 0, 1) := by decide +kernel
theorem dX11_count_93 : decode cX11_count 93 = .ok (.getfield 24, 3) := by decide +kernel
theorem dX11_count_96 : decode cX11_count 96 = .ok (.invokevirtual 301, 3) := by decide +kernel
theorem dX11_count_99 : decode cX11_count 99 = .ok (.ireturn, 1) := by decide +kernel
theorem dX11_count_100 : decode cX11_count 100 = .ok (.aload_n 0, 1) := by decide +kernel
theorem dX11_count_101 : decode cX11_count 101 = .ok (.getfield 38, 3) := by decide +kernel
theorem dX11_count_104 : decode cX11_count 104 = .ok (.getfield 172, 3) := by decide +kernel
theorem dX11_count_107 : decode cX11_count 107 = .ok (.ireturn, 1) := by decide +kernel
theorem dX11_count_108 : decode cX11_count 108 = .ok (.aload_n 0, 1) := by decide +kernel
theorem dX11_count_109 : decode cX11_count 109 = .ok (.getfield 31, 3) := by decide +kernel
theorem dX11_count_112 : decode cX11_count 112 = .ok (.invokevirtual 304, 3) := by decide +kernel
theorem dX11_count_115 : decode cX11_count 115 = .ok (.ireturn, 1) := by decide +kernel
theorem dX11_count_116 : decode cX11_count 116 = .ok (.aload_n 0, 1) := by decide +kernel
theorem dX11_count_117 : decode cX11_count 117 = .ok (.getfield 307, 3) := by decide +kernel
theorem dX11_count_120 : decode cX11_count 120 = .ok (.ireturn, 1) := by decide +kernel
theorem dX11_count_121 : decode cX11_count 121 = .ok (.bipush (-2), 2) := by decide +kernel
theorem dX11_count_123 : decode cX11_count 123 = .ok (.ireturn, 1) := by decide +kernel
theorem dX11_digest_0 : decode cX11_digest 0 = .ok (.ldc2_w 310, 3) := by decide +kernel
theorem dX11_digest_3 : decode cX11_digest 3 = .ok (.lstore_n 1, 1) := by decide +kernel
theorem dX11_digest_4 : decode cX11_digest 4 = .ok (.iconst 0, 1) := by decide +kernel
theorem dX11_digest_5 : decode cX11_digest 5 = .ok (.istore_n 3, 1) := by decide +kernel
theorem dX11_digest_6 : decode cX11_digest 6 = .ok (.iload_n 3, 1) := by decide +kernel
theorem dX11_digest_7 : decode cX11_digest 7 = .ok (.bipush 7, 2) := by decide +kernel
theorem dX11_digest_9 : decode cX11_digest 9 = .ok (.if_icmp .gt 20, 3) := by decide +kernel
theorem dX11_digest_12 : decode cX11_digest 12 = .ok (.lload_n 1, 1) := by decide +kernel
theorem dX11_digest_13 : decode cX11_digest 13 = .ok (.aload_n 0, 1) := by decide +kernel
theorem dX11_digest_14 : decode cX11_digest 14 = .ok (.iload_n 3, 1) := by decide +kernel
theorem dX11_digest_15 : decode cX11_digest 15 = .ok (.invokevirtual 312, 3) := by decide +kernel
theorem dX11_digest_18 : decode cX11_digest 18 = .ok (.i2l, 1) := by decide +kernel
theorem dX11_digest_19 : decode cX11_digest 19 = .ok (.invokestatic 315, 3) := by decide +kernel
theorem dX11_digest_22 : decode cX11_digest 22 = .ok (.lstore_n 1, 1) := by decide +kernel
theorem dX11_digest_23 : decode cX11_digest 23 = .ok (.iinc 3 1, 3) := by decide +kernel
theorem dX11_digest_26 : decode cX11_digest 26 = .ok (.goto (-20), 3) := by decide +kernel
theorem dX11_digest_29 : decode cX11_digest 29 = .ok (.lload_n 1, 1) := by decide +kernel
theorem dX11_digest_30 : decode cX11_digest 30 = .ok (.aload_n 0, 1) := by decide +kernel
theorem dX11_digest_31 : decode cX11_digest 31 = .ok (.iconst 0, 1) := by decide +kernel
theorem dX11_digest_32 : decode cX11_digest 32 = .ok (.invokevirtual 319, 3) := by decide +kernel
theorem dX11_digest_35 : decode cX11_digest 35 = .ok (.i2l, 1) := by decide +kernel
theorem dX11_digest_36 : decode cX11_digest 36 = .ok (.invokestatic 315, 3) := by decide +kernel
theorem dX11_digest_39 : decode cX11_digest 39 = .ok (.aload_n 0, 1) := by decide +kernel
theorem dX11_digest_40 : decode cX11_digest 40 = .ok (.iconst 1, 1) := by decide +kernel
theorem dX11_digest_41 : decode cX11_digest 41 = .ok (.invokevirtual 319, 3) := by decide +kernel
theorem dX11_digest_44 : decode cX11_digest 44 = .ok (.i2l, 1) := by decide +kernel
theorem dX11_digest_45 : decode cX11_digest 45 = .ok (.invokestatic 315, 3) := by decide +kernel
theorem dX11_digest_48 : decode cX11_digest 48 = .ok (.lstore_n 1, 1) := by decide +kernel
theorem dX11_digest_49 : decode cX11_digest 49 = .ok (.iconst 0, 1) := by decide +kernel
theorem dX11_digest_50 : decode cX11_digest 50 = .ok (.istore_n 3, 1) := by decide +kernel
theorem dX11_digest_51 : decode cX11_digest 51 = .ok (.iload_n 3, 1) := by decide +kernel
theorem dX11_digest_52 : decode cX11_digest 52 = .ok (.aload_n 0, 1) := by decide +kernel
theorem dX11_digest_53 : decode cX11_digest 53 = .ok (.getfield 24, 3) := by decide +kernel
theorem dX11_digest_56 : decode cX11_digest 56 = .ok (.getfield 298, 3) := by decide +kernel
theorem dX11_digest_59 : decode cX11_digest 59 = .ok (.if_icmp .ge 16, 3) := by decide +kernel
theorem dX11_digest_62 : decode cX11_digest 62 = .ok (.aload_n 0, 1) := by decide +kernel
theorem dX11_digest_63 : decode cX11_digest 63 = .ok (.lload_n 1, 1) := by decide +kernel
theorem dX11_digest_64 : decode cX11_digest 64 = .ok (.iload_n 3, 1) := by decide +kernel
theorem dX11_digest_65 : decode cX11_digest 65 = .ok (.invokevirtual 322, 3) := by decide +kernel
theorem dX11_digest_68 : decode cX11_digest 68 = .ok (.lstore_n 1, 1) := by decide +kernel
theorem dX11_digest_69 : decode cX11_digest 69 = .ok (.iinc 3 1, 3) := by decide +kernel
theorem dX11_digest_72 : decode cX11_digest 72 = .ok (.goto (-21), 3) := by decide +kernel
theorem dX11_digest_75 : decode cX11_digest 75 = .ok (.iconst 0, 1) := by decide +kernel
theorem dX11_digest_76 : decode cX11_digest 76 = .ok (.istore_n 3, 1) := by decide +kernel
theorem dX11_digest_77 : decode cX11_digest 77 = .ok (.iload_n 3, 1) := by decide +kernel
theorem dX11_digest_78 : decode cX11_digest 78 = .ok (.aload_n 0, 1) := by decide +kernel
theorem dX11_digest_79 : decode cX11_digest 79 = .ok (.getfield 31, 3) := by decide +kernel
theorem dX11_digest_82 : decode cX11_digest 82 = .ok (.invokevirtual 216, 3) := by decide +kernel
theorem dX11_digest_85 : decode cX11_digest 85 = .ok (.if_icmp .ge 16, 3) := by decide +kernel
theorem dX11_digest_88 : decode cX11_digest 88 = .ok (.aload_n 0, 1) := by decide +kernel
theorem dX11_digest_89 : decode cX11_digest 89 = .ok (.lload_n 1, 1) := by decide +kernel
theorem dX11_digest_90 : decode cX11_digest 90 = .ok (.iload_n 3, 1) := by decide +kernel
theorem dX11_digest_91 : decode cX11_digest 91 = .ok (.invokevirtual 326, 3) := by decide +kernel
theorem dX11_digest_94 : decode cX11_digest 94 = .ok (.lstore_n 1, 1) := by decide +kernel
theorem dX11_digest_95 : decode cX11_digest 95 = .ok (.iinc 3 1, 3) := by decide +kernel
theorem dX11_digest_98 : decode cX11_digest 98 = .ok (.goto (-21), 3) := by decide +kernel
theorem dX11_digest_101 : decode cX11_digest 101 = .ok (.lload_n 1, 1) := by decide +kernel
theorem dX11_digest_102 : decode cX11_digest 102 = .ok (.aload_n 0, 1) := by decide +kernel
theorem dX11_digest_103 : decode cX11_digest 103 = .ok (.iconst (-1), 1) := by decide +kernel
theorem dX11_digest_104 : decode cX11_digest 104 = .ok (.iconst 0, 1) := by decide +kernel
theorem dX11_digest_105 : decode cX11_digest 105 = .ok (.invokevirtual 329, 3) := by decide +kernel
theorem dX11_digest_108 : decode cX11_digest 108 = .ok (.invokestatic 315, 3) := by decide +kernel
theorem dX11_digest_111 : decode cX11_digest 111 = .ok (.aload_n 0, 1) := by decide +kernel
theorem dX11_digest_112 : decode cX11_digest 112 = .ok (.iconst (-1), 1) := by decide +kernel
theorem dX11_digest_113 : decode cX11_digest 113 = .ok (.iconst 1, 1) := by decide +kernel
theorem dX11_digest_114 : decode cX11_digest 114 = .ok (.invokevirtual 329, 3) := by decide +kernel
theorem dX11_digest_117 : decode cX11_digest 117 = .ok (.invokestatic 315, 3) := by decide +kernel
theorem dX11_digest_120 : decode cX11_digest 120 = .ok (.lstore_n 1, 1) := by decide +kernel
theorem dX11_digest_121 : decode cX11_digest 121 = .ok (.lload_n 1, 1) := by decide +kernel
theorem dX11_digest_122 : decode cX11_digest 122 = .ok (.aload_n 0, 1) := by decide +kernel
theorem dX11_digest_123 : decode cX11_digest 123 = .ok (.invokevirtual 333, 3) := by decide +kernel
theorem dX11_digest_126 : decode cX11_digest 126 = .ok (.i2l, 1) := by decide +kernel
theorem dX11_digest_127 : decode cX11_digest 127 = .ok (.invokestatic 315, 3) := by decide +kernel
theorem dX11_digest_130 : decode cX11_digest 130 = .ok (.aload_n 0, 1) := by decide +kernel
theorem dX11_digest_131 : decode cX11_digest 131 = .ok (.invokevirtual 336, 3) := by decide +kernel
theorem dX11_digest_134 : decode cX11_digest 134 = .ok (.i2l, 1) := by decide +kernel
theorem dX11_digest_135 : decode cX11_digest 135 = .ok (.invokestatic 315, 3) := by decide +kernel
theorem dX11_digest_138 : decode cX11_digest 138 = .ok (.lstore_n 1, 1) := by decide +kernel
theorem dX11_digest_139 : decode cX11_digest 139 = .ok (.lload_n 1, 1) := by decide +kernel
theorem dX11_digest_140 : decode cX11_digest 140 = .ok (.aload_n 0, 1) := by decide +kernel
theorem dX11_digest_141 : decode cX11_digest 141 = .ok (.iconst 0, 1) := by decide +kernel
theorem dX11_digest_142 : decode cX11_digest 142 = .ok (.iconst 0, 1) := by decide +kernel
theorem dX11_digest_143 : decode cX11_digest 143 = .ok (.invokevirtual 339, 3) := by decide +kernel
theorem dX11_digest_146 : decode cX11_digest 146 = .ok (.invokestatic 315, 3) := by decide +kernel
theorem dX11_digest_149 : decode cX11_digest 149 = .ok (.aload_n 0, 1) := by decide +kernel
theorem dX11_digest_150 : decode cX11_digest 150 = .ok (.iconst 0, 1) := by decide +kernel
theorem dX11_digest_151 : decode cX11_digest 151 = .ok (.iconst 1, 1) := by decide +kernel
theorem dX11_digest_152 : decode cX11_digest 152 = .ok (.invokevirtual 339, 3) := by decide +kernel
theorem dX11_digest_155 : decode cX11_digest 155 = .ok (.invokestatic 315, 3) := by decide +kernel
theorem dX11_digest_158 : decode cX11_digest 158 = .ok (.lstore_n 1, 1) := by decide +kernel
theorem dX11_digest_159 : decode cX11_digest 159 = .ok (.aload_n 0, 1) := by decide +kernel
theorem dX11_digest_160 : decode cX11_digest 160 = .ok (.lload_n 1, 1) := by decide +kernel
theorem dX11_digest_161 : decode cX11_digest 161 = .ok (.aload_n 0, 1) := by decide +kernel
theorem dX11_digest_162 : decode cX11_digest 162 = .ok (.bipush 20, 2) := by decide +kernel
theorem dX11_digest_164 : decode cX11_digest 164 = .ok (.invokevirtual 342, 3) := by decide +kernel
theorem dX11_digest_167 : decode cX11_digest 167 = .ok (.i2l, 1) := by decide +kernel
theorem dX11_digest_168 : decode cX11_digest 168 = .ok (.invokestatic 315, 3) := by decide +kernel
theorem dX11_digest_171 : decode cX11_digest 171 = .ok (.invokevirtual 344, 3) := by decide +kernel
theorem dX11_digest_174 : decode cX11_digest 174 = .ok (.lstore_n 1, 1) := by decide +kernel
theorem dX11_digest_175 : decode cX11_digest 175 = .ok (.iconst 0, 1) := by decide +kernel
theorem dX11_digest_176 : decode cX11_digest 176 = .ok (.istore_n 3, 1) := by decide +kernel
theorem dX11_digest_177 : decode cX11_digest 177 = .ok (.iload_n 3, 1) := by decide +kernel
theorem dX11_digest_178 : decode cX11_digest 178 = .ok (.iconst 2, 1) := by decide +kernel
theorem dX11_digest_179 : decode cX11_digest 179 = .ok (.if_icmp .gt 20, 3) := by decide +kernel
theorem dX11_digest_182 : decode cX11_digest 182 = .ok (.lload_n 1, 1) := by decide +kernel
theorem dX11_digest_183 : decode cX11_digest 183 = .ok (.aload_n 0, 1) := by decide +kernel
theorem dX11_digest_184 : decode cX11_digest 184 = .ok (.iconst 1, 1) := by decide +kernel
theorem dX11_digest_185 : decode cX11_digest 185 = .ok (.iload_n 3, 1) := by decide +kernel
theorem dX11_digest_186 : decode cX11_digest 186 = .ok (.invokevirtual 348, 3) := by decide +kernel
theorem dX11_digest_189 : decode cX11_digest 189 = .ok (.invokestatic 315, 3) := by decide +kernel
theorem dX11_digest_192 : decode cX11_digest 192 = .ok (.lstore_n 1, 1) := by decide +kernel
theorem dX11_digest_193 : decode cX11_digest 193 = .ok (.iinc 3 1, 3) := by decide +kernel
theorem dX11_digest_196 : decode cX11_digest 196 = .ok (.goto (-19), 3) := by decide +kernel
theorem dX11_digest_199 : decode cX11_digest 199 = .ok (.iconst 0, 1) := by decide +kernel
theorem dX11_digest_200 : decode cX11_digest 200 = .ok (.istore_n 3, 1) := by decide +kernel
theorem dX11_digest_201 : decode cX11_digest 201 = .ok (.iload_n 3, 1) := by decide +kernel
theorem dX11_digest_202 : decode cX11_digest 202 = .ok (.iconst 2, 1) := by decide +kernel
theorem dX11_digest_203 : decode cX11_digest 203 = .ok (.if_icmp .gt 23, 3) := by decide +kernel
theorem dX11_digest_206 : decode cX11_digest 206 = .ok (.lload_n 1, 1) := by decide +kernel
theorem dX11_digest_207 : decode cX11_digest 207 = .ok (.aload_n 0, 1) := by decide +kernel
theorem dX11_digest_208 : decode cX11_digest 208 = .ok (.iconst 3, 1) := by decide +kernel
theorem dX11_digest_209 : decode cX11_digest 209 = .ok (.iconst 2, 1) := by decide +kernel
theorem dX11_digest_210 : decode cX11_digest 210 = .ok (.bipush 90, 2) := by decide +kernel
theorem dX11_digest_212 : decode cX11_digest 212 = .ok (.iload_n 3, 1) := by decide +kernel
theorem dX11_digest_213 : decode cX11_digest 213 = .ok (.invokevirtual 351, 3) := by decide +kernel
theorem dX11_digest_216 : decode cX11_digest 216 = .ok (.invokestatic 315, 3) := by decide +kernel
theorem dX11_digest_219 : decode cX11_digest 219 = .ok (.lstore_n 1, 1) := by decide +kernel
theorem dX11_digest_220 : decode cX11_digest 220 = .ok (.iinc 3 1, 3) := by decide +kernel
theorem dX11_digest_223 : decode cX11_digest 223 = .ok (.goto (-22), 3) := by decide +kernel
theorem dX11_digest_226 : decode cX11_digest 226 = .ok (.lload_n 1, 1) := by decide +kernel
theorem dX11_digest_227 : decode cX11_digest 227 = .ok (.aload_n 0, 1) := by decide +kernel
theorem dX11_digest_228 : decode cX11_digest 228 = .ok (.iconst 1, 1) := by decide +kernel
theorem dX11_digest_229 : decode cX11_digest 229 = .ok (.iconst 1, 1) := by decide +kernel
theorem dX11_digest_230 : decode cX11_digest 230 = .ok (.iconst 0, 1) := by decide +kernel
theorem dX11_digest_231 : decode cX11_digest 231 = .ok (.invokevirtual 354, 3) := by decide +kernel
theorem dX11_digest_234 : decode cX11_digest 234 = .ok (.invokestatic 315, 3) := by decide +kernel
theorem dX11_digest_237 : decode cX11_digest 237 = .ok (.aload_n 0, 1) := by decide +kernel
theorem dX11_digest_238 : decode cX11_digest 238 = .ok (.iconst 1, 1) := by decide +kernel
theorem dX11_digest_239 : decode cX11_digest 239 = .ok (.iconst 1, 1) := by decide +kernel
theorem dX11_digest_240 : decode cX11_digest 240 = .ok (.iconst 1, 1) := by decide +kernel
theorem dX11_digest_241 : decode cX11_digest 241 = .ok (.invokevirtual 354, 3) := by decide +kernel
theorem dX11_digest_244 : decode cX11_digest 244 = .ok (.invokestatic 315, 3) := by decide +kernel
theorem dX11_digest_247 : decode cX11_digest 247 = .ok (.lstore_n 1, 1) := by decide +kernel
theorem dX11_digest_248 : decode cX11_digest 248 = .ok (.lload_n 1, 1) := by decide +kernel
theorem dX11_digest_249 : decode cX11_digest 249 = .ok (.aload_n 0, 1) := by decide +kernel
theorem dX11_digest_250 : decode cX11_digest 250 = .ok (.bipush 7, 2) := by decide +kernel
theorem dX11_digest_252 : decode cX11_digest 252 = .ok (.invokevirtual 357, 3) := by decide +kernel
theorem dX11_digest_255 : decode cX11_digest 255 = .ok (.i2l, 1) := by decide +kernel
theorem dX11_digest_256 : decode cX11_digest 256 = .ok (.invokestatic 315, 3) := by decide +kernel
theorem dX11_digest_259 : decode cX11_digest 259 = .ok (.lreturn, 1) := by decide +kernel
theorem dX11_mix_0 : decode cX11_mix 0 = .ok (.ldc2_w 360, 3) := by decide +kernel
theorem dX11_mix_3 : decode cX11_mix 3 = .ok (.lload_n 0, 1) := by decide +kernel
theorem dX11_mix_4 : decode cX11_mix 4 = .ok (.lmul, 1) := by decide +kernel
theorem dX11_mix_5 : decode cX11_mix 5 = .ok (.lload_n 2, 1) := by decide +kernel
theorem dX11_mix_6 : decode cX11_mix 6 = .ok (.ladd, 1) := by decide +kernel
theorem dX11_mix_7 : decode cX11_mix 7 = .ok (.lreturn, 1) := by decide +kernel
theorem dX11_mixPart_0 : decode cX11_mixPart 0 = .ok (.lload_n 1, 1) := by decide +kernel
theorem dX11_mixPart_1 : decode cX11_mixPart 1 = .ok (.aload_n 0, 1) := by decide +kernel
theorem dX11_mixPart_2 : decode cX11_mixPart 2 = .ok (.iload_n 3, 1) := by decide +kernel
theorem dX11_mixPart_3 : decode cX11_mixPart 3 = .ok (.iconst 0, 1) := by decide +kernel
theorem dX11_mixPart_4 : decode cX11_mixPart 4 = .ok (.invokevirtual 362, 3) := by decide +kernel
theorem dX11_mixPart_7 : decode cX11_mixPart 7 = .ok (.i2l, 1) := by decide +kernel
theorem dX11_mixPart_8 : decode cX11_mixPart 8 = .ok (.invokestatic 315, 3) := by decide +kernel
theorem dX11_mixPart_11 : decode cX11_mixPart 11 = .ok (.aload_n 0, 1) := by decide +kernel
theorem dX11_mixPart_12 : decode cX11_mixPart 12 = .ok (.iload_n 3, 1) := by decide +kernel
theorem dX11_mixPart_13 : decode cX11_mixPart 13 = .ok (.iconst 1, 1) := by decide +kernel
theorem dX11_mixPart_14 : decode cX11_mixPart 14 = .ok (.invokevirtual 362, 3) := by decide +kernel
theorem dX11_mixPart_17 : decode cX11_mixPart 17 = .ok (.i2l, 1) := by decide +kernel
theorem dX11_mixPart_18 : decode cX11_mixPart 18 = .ok (.invokestatic 315, 3) := by decide +kernel
theorem dX11_mixPart_21 : decode cX11_mixPart 21 = .ok (.lstore 4, 2) := by decide +kernel
theorem dX11_mixPart_23 : decode cX11_mixPart 23 = .ok (.lload 4, 2) := by decide +kernel
theorem dX11_mixPart_25 : decode cX11_mixPart 25 = .ok (.aload_n 0, 1) := by decide +kernel
theorem dX11_mixPart_26 : decode cX11_mixPart 26 = .ok (.iload_n 3, 1) := by decide +kernel
theorem dX11_mixPart_27 : decode cX11_mixPart 27 = .ok (.iconst 0, 1) := by decide +kernel
theorem dX11_mixPart_28 : decode cX11_mixPart 28 = .ok (.iconst 0, 1) := by decide +kernel
theorem dX11_mixPart_29 : decode cX11_mixPart 29 = .ok (.invokevirtual 365, 3) := by decide +kernel
theorem dX11_mixPart_32 : decode cX11_mixPart 32 = .ok (.i2l, 1) := by decide +kernel
theorem dX11_mixPart_33 : decode cX11_mixPart 33 = .ok (.invokestatic 315, 3) := by decide +kernel
theorem dX11_mixPart_36 : decode cX11_mixPart 36 = .ok (.aload_n 0, 1) := by decide +kernel
theorem dX11_mixPart_37 : decode cX11_mixPart 37 = .ok (.iload_n 3, 1) := by decide +kernel
theorem dX11_mixPart_38 : decode cX11_mixPart 38 = .ok (.iconst 0, 1) := by decide +kernel
theorem dX11_mixPart_39 : decode cX11_mixPart 39 = .ok (.iconst 1, 1) := by decide +kernel
theorem dX11_mixPart_40 : decode cX11_mixPart 40 = .ok (.invokevirtual 365, 3) := by decide +kernel
theorem dX11_mixPart_43 : decode cX11_mixPart 43 = .ok (.i2l, 1) := by decide +kernel
theorem dX11_mixPart_44 : decode cX11_mixPart 44 = .ok (.invokestatic 315, 3) := by decide +kernel
theorem dX11_mixPart_47 : decode cX11_mixPart 47 = .ok (.lstore 4, 2) := by decide +kernel
theorem dX11_mixPart_49 : decode cX11_mixPart 49 = .ok (.lload 4, 2) := by decide +kernel
theorem dX11_mixPart_51 : decode cX11_mixPart 51 = .ok (.aload_n 0, 1) := by decide +kernel
theorem dX11_mixPart_52 : decode cX11_mixPart 52 = .ok (.iload_n 3, 1) := by decide +kernel
theorem dX11_mixPart_53 : decode cX11_mixPart 53 = .ok (.invokevirtual 368, 3) := by decide +kernel
theorem dX11_mixPart_56 : decode cX11_mixPart 56 = .ok (.i2l, 1) := by decide +kernel
theorem dX11_mixPart_57 : decode cX11_mixPart 57 = .ok (.invokestatic 315, 3) := by decide +kernel
theorem dX11_mixPart_60 : decode cX11_mixPart 60 = .ok (.lreturn, 1) := by decide +kernel
theorem dX11_mixWalker_0 : decode cX11_mixWalker 0 = .ok (.lload_n 1, 1) := by decide +kernel
theorem dX11_mixWalker_1 : decode cX11_mixWalker 1 = .ok (.aload_n 0, 1) := by decide +kernel
theorem dX11_mixWalker_2 : decode cX11_mixWalker 2 = .ok (.iload_n 3, 1) := by decide +kernel
theorem dX11_mixWalker_3 : decode cX11_mixWalker 3 = .ok (.iconst 0, 1) := by decide +kernel
theorem dX11_mixWalker_4 : decode cX11_mixWalker 4 = .ok (.invokevirtual 371, 3) := by decide +kernel
theorem dX11_mixWalker_7 : decode cX11_mixWalker 7 = .ok (.i2l, 1) := by decide +kernel
theorem dX11_mixWalker_8 : decode cX11_mixWalker 8 = .ok (.invokestatic 315, 3) := by decide +kernel
theorem dX11_mixWalker_11 : decode cX11_mixWalker 11 = .ok (.aload_n 0, 1) := by decide +kernel
theorem dX11_mixWalker_12 : decode cX11_mixWalker 12 = .ok (.iload_n 3, 1) := by decide +kernel
theorem dX11_mixWalker_13 : decode cX11_mixWalker 13 = .ok (.iconst 1, 1) := by decide +kernel
theorem dX11_mixWalker_14 : decode cX11_mixWalker 14 = .ok (.invokevirtual 371, 3) := by decide +kernel
theorem dX11_mixWalker_17 : decode cX11_mixWalker 17 = .ok (.i2l, 1) := by decide +kernel
theorem dX11_mixWalker_18 : decode cX11_mixWalker 18 = .ok (.invokestatic 315, 3) := by decide +kernel
theorem dX11_mixWalker_21 : decode cX11_mixWalker 21 = .ok (.aload_n 0, 1) := by decide +kernel
theorem dX11_mixWalker_22 : decode cX11_mixWalker 22 = .ok (.iload_n 3, 1) := by decide +kernel
theorem dX11_mixWalker_23 : decode cX11_mixWalker 23 = .ok (.iconst 2, 1) := by decide +kernel
theorem dX11_mixWalker_24 : decode cX11_mixWalker 24 = .ok (.invokevirtual 371, 3) := by decide +kernel
theorem dX11_mixWalker_27 : decode cX11_mixWalker 27 = .ok (.i2l, 1) := by decide +kernel
theorem dX11_mixWalker_28 : decode cX11_mixWalker 28 = .ok (.invokestatic 315, 3) := by decide +kernel
theorem dX11_mixWalker_31 : decode cX11_mixWalker 31 = .ok (.lstore 4, 2) := by decide +kernel
theorem dX11_mixWalker_33 : decode cX11_mixWalker 33 = .ok (.lload 4, 2) := by decide +kernel
theorem dX11_mixWalker_35 : decode cX11_mixWalker 35 = .ok (.aload_n 0, 1) := by decide +kernel
theorem dX11_mixWalker_36 : decode cX11_mixWalker 36 = .ok (.iload_n 3, 1) := by decide +kernel
theorem dX11_mixWalker_37 : decode cX11_mixWalker 37 = .ok (.iconst 5, 1) := by decide +kernel
theorem dX11_mixWalker_38 : decode cX11_mixWalker 38 = .ok (.invokevirtual 374, 3) := by decide +kernel
theorem dX11_mixWalker_41 : decode cX11_mixWalker 41 = .ok (.i2l, 1) := by decide +kernel
theorem dX11_mixWalker_42 : decode cX11_mixWalker 42 = .ok (.invokestatic 315, 3) := by decide +kernel
theorem dX11_mixWalker_45 : decode cX11_mixWalker 45 = .ok (.aload_n 0, 1) := by decide +kernel
theorem dX11_mixWalker_46 : decode cX11_mixWalker 46 = .ok (.iload_n 3, 1) := by decide +kernel
theorem dX11_mixWalker_47 : decode cX11_mixWalker 47 = .ok (.iconst 2, 1) := by decide +kernel
theorem dX11_mixWalker_48 : decode cX11_mixWalker 48 = .ok (.invokevirtual 377, 3) := by decide +kernel
theorem dX11_mixWalker_51 : decode cX11_mixWalker 51 = .ok (.i2l, 1) := by decide +kernel
theorem dX11_mixWalker_52 : decode cX11_mixWalker 52 = .ok (.invokestatic 315, 3) := by decide +kernel
theorem dX11_mixWalker_55 : decode cX11_mixWalker 55 = .ok (.lstore 4, 2) := by decide +kernel
theorem dX11_mixWalker_57 : decode cX11_mixWalker 57 = .ok (.lload 4, 2) := by decide +kernel
theorem dX11_mixWalker_59 : decode cX11_mixWalker 59 = .ok (.aload_n 0, 1) := by decide +kernel
theorem dX11_mixWalker_60 : decode cX11_mixWalker 60 = .ok (.iconst 0, 1) := by decide +kernel
theorem dX11_mixWalker_61 : decode cX11_mixWalker 61 = .ok (.iload_n 3, 1) := by decide +kernel
theorem dX11_mixWalker_62 : decode cX11_mixWalker 62 = .ok (.iconst 0, 1) := by decide +kernel
theorem dX11_mixWalker_63 : decode cX11_mixWalker 63 = .ok (.invokevirtual 380, 3) := by decide +kernel
theorem dX11_mixWalker_66 : decode cX11_mixWalker 66 = .ok (.invokestatic 315, 3) := by decide +kernel
theorem dX11_mixWalker_69 : decode cX11_mixWalker 69 = .ok (.aload_n 0, 1) := by decide +kernel
theorem dX11_mixWalker_70 : decode cX11_mixWalker 70 = .ok (.iconst 0, 1) := by decide +kernel
theorem dX11_mixWalker_71 : decode cX11_mixWalker 71 = .ok (.iload_n 3, 1) := by decide +kernel
theorem dX11_mixWalker_72 : decode cX11_mixWalker 72 = .ok (.iconst 1, 1) := by decide +kernel
theorem dX11_mixWalker_73 : decode cX11_mixWalker 73 = .ok (.invokevirtual 380, 3) := by decide +kernel
theorem dX11_mixWalker_76 : decode cX11_mixWalker 76 = .ok (.invokestatic 315, 3) := by decide +kernel
theorem dX11_mixWalker_79 : decode cX11_mixWalker 79 = .ok (.lstore 4, 2) := by decide +kernel
theorem dX11_mixWalker_81 : decode cX11_mixWalker 81 = .ok (.lload 4, 2) := by decide +kernel
theorem dX11_mixWalker_83 : decode cX11_mixWalker 83 = .ok (.aload_n 0, 1) := by decide +kernel
theorem dX11_mixWalker_84 : decode cX11_mixWalker 84 = .ok (.iconst (-1), 1) := by decide +kernel
theorem dX11_mixWalker_85 : decode cX11_mixWalker 85 = .ok (.iload_n 3, 1) := by decide +kernel
theorem dX11_mixWalker_86 : decode cX11_mixWalker 86 = .ok (.iconst 0, 1) := by decide +kernel
theorem dX11_mixWalker_87 : decode cX11_mixWalker 87 = .ok (.invokevirtual 380, 3) := by decide +kernel
theorem dX11_mixWalker_90 : decode cX11_mixWalker 90 = .ok (.invokestatic 315, 3) := by decide +kernel
theorem dX11_mixWalker_93 : decode cX11_mixWalker 93 = .ok (.aload_n 0, 1) := by decide +kernel
theorem dX11_mixWalker_94 : decode cX11_mixWalker 94 = .ok (.iconst (-1), 1) := by decide +kernel
theorem dX11_mixWalker_95 : decode cX11_mixWalker 95 = .ok (.iload_n 3, 1) := by decide +kernel
theorem dX11_mixWalker_96 : decode cX11_mixWalker 96 = .ok (.iconst 1, 1) := by decide +kernel
theorem dX11_mixWalker_97 : decode cX11_mixWalker 97 = .ok (.invokevirtual 380, 3) := by decide +kernel
theorem dX11_mixWalker_100 : decode cX11_mixWalker 100 = .ok (.invokestatic 315, 3) := by decide +kernel
theorem dX11_mixWalker_103 : decode cX11_mixWalker 103 = .ok (.lstore 4, 2) := by decide +kernel
theorem dX11_mixWalker_105 : decode cX11_mixWalker 105 = .ok (.lload 4, 2) := by decide +kernel
theorem dX11_mixWalker_107 : decode cX11_mixWalker 107 = .ok (.aload_n 0, 1) := by decide +kernel
theorem dX11_mixWalker_108 : decode cX11_mixWalker 108 = .ok (.iload_n 3, 1) := by decide +kernel
theorem dX11_mixWalker_109 : decode cX11_mixWalker 109 = .ok (.iconst 0, 1) := by decide +kernel
theorem dX11_mixWalker_110 : decode cX11_mixWalker 110 = .ok (.invokevirtual 329, 3) := by decide +kernel
theorem dX11_mixWalker_113 : decode cX11_mixWalker 113 = .ok (.invokestatic 315, 3) := by decide +kernel
theorem dX11_mixWalker_116 : decode cX11_mixWalker 116 = .ok (.aload_n 0, 1) := by decide +kernel
theorem dX11_mixWalker_117 : decode cX11_mixWalker 117 = .ok (.iload_n 3, 1) := by decide +kernel
theorem dX11_mixWalker_118 : decode cX11_mixWalker 118 = .ok (.iconst 1, 1) := by decide +kernel
theorem dX11_mixWalker_119 : decode cX11_mixWalker 119 = .ok (.invokevirtual 329, 3) := by decide +kernel
theorem dX11_mixWalker_122 : decode cX11_mixWalker 122 = .ok (.invokestatic 315, 3) := by decide +kernel
theorem dX11_mixWalker_125 : decode cX11_mixWalker 125 = .ok (.lreturn, 1) := by decide +kernel
theorem dX11_mixOrder_0 : decode cX11_mixOrder 0 = .ok (.aload_n 0, 1) := by decide +kernel
theorem dX11_mixOrder_1 : decode cX11_mixOrder 1 = .ok (.getfield 56, 3) := by decide +kernel
theorem dX11_mixOrder_4 : decode cX11_mixOrder 4 = .ok (.invokevirtual 209, 3) := by decide +kernel
theorem dX11_mixOrder_7 : decode cX11_mixOrder 7 = .ok (.lstore_n 3, 1) := by decide +kernel
theorem dX11_mixOrder_8 : decode cX11_mixOrder 8 = .ok (.lload_n 1, 1) := by decide +kernel
theorem dX11_mixOrder_9 : decode cX11_mixOrder 9 = .ok (.aload_n 0, 1) := by decide +kernel
theorem dX11_mixOrder_10 : decode cX11_mixOrder 10 = .ok (.getfield 56, 3) := by decide +kernel
theorem dX11_mixOrder_13 : decode cX11_mixOrder 13 = .ok (.iconst 0, 1) := by decide +kernel
theorem dX11_mixOrder_14 : decode cX11_mixOrder 14 = .ok (.invokevirtual 213, 3) := by decide +kernel
theorem dX11_mixOrder_17 : decode cX11_mixOrder 17 = .ok (.i2l, 1) := by decide +kernel
theorem dX11_mixOrder_18 : decode cX11_mixOrder 18 = .ok (.invokestatic 315, 3) := by decide +kernel
theorem dX11_mixOrder_21 : decode cX11_mixOrder 21 = .ok (.aload_n 0, 1) := by decide +kernel
theorem dX11_mixOrder_22 : decode cX11_mixOrder 22 = .ok (.getfield 56, 3) := by decide +kernel
theorem dX11_mixOrder_25 : decode cX11_mixOrder 25 = .ok (.iconst 1, 1) := by decide +kernel
theorem dX11_mixOrder_26 : decode cX11_mixOrder 26 = .ok (.invokevirtual 213, 3) := by decide +kernel
theorem dX11_mixOrder_29 : decode cX11_mixOrder 29 = .ok (.i2l, 1) := by decide +kernel
theorem dX11_mixOrder_30 : decode cX11_mixOrder 30 = .ok (.invokestatic 315, 3) := by decide +kernel
theorem dX11_mixOrder_33 : decode cX11_mixOrder 33 = .ok (.lstore 5, 2) := by decide +kernel
theorem dX11_mixOrder_35 : decode cX11_mixOrder 35 = .ok (.lload 5, 2) := by decide +kernel
theorem dX11_mixOrder_37 : decode cX11_mixOrder 37 = .ok (.lload_n 3, 1) := by decide +kernel
theorem dX11_mixOrder_38 : decode cX11_mixOrder 38 = .ok (.ldc2_w 183, 3) := by decide +kernel
theorem dX11_mixOrder_41 : decode cX11_mixOrder 41 = .ok (.iconst 0, 1) := by decide +kernel
theorem dX11_mixOrder_42 : decode cX11_mixOrder 42 = .ok (.invokestatic 185, 3) := by decide +kernel
theorem dX11_mixOrder_45 : decode cX11_mixOrder 45 = .ok (.invokestatic 315, 3) := by decide +kernel
theorem dX11_mixOrder_48 : decode cX11_mixOrder 48 = .ok (.lload_n 3, 1) := by decide +kernel
theorem dX11_mixOrder_49 : decode cX11_mixOrder 49 = .ok (.ldc2_w 183, 3) := by decide +kernel
theorem dX11_mixOrder_52 : decode cX11_mixOrder 52 = .ok (.iconst 1, 1) := by decide +kernel
theorem dX11_mixOrder_53 : decode cX11_mixOrder 53 = .ok (.invokestatic 185, 3) := by decide +kernel
theorem dX11_mixOrder_56 : decode cX11_mixOrder 56 = .ok (.invokestatic 315, 3) := by decide +kernel
theorem dX11_mixOrder_59 : decode cX11_mixOrder 59 = .ok (.lreturn, 1) := by decide +kernel
theorem dX11_textAt_0 : decode cX11_textAt 0 = .ok (.iload_n 1, 1) := by decide +kernel
theorem dX11_textAt_1 : decode cX11_textAt 1 = .ok (.ifCond .ne 8, 3) := by decide +kernel
theorem dX11_textAt_4 : decode cX11_textAt 4 = .ok (.aload_n 0, 1) := by decide +kernel
theorem dX11_textAt_5 : decode cX11_textAt 5 = .ok (.getfield 14, 3) := by decide +kernel
theorem dX11_textAt_8 : decode cX11_textAt 8 = .ok (.areturn, 1) := by decide +kernel
theorem dX11_textAt_9 : decode cX11_textAt 9 = .ok (.iload_n 1, 1) := by decide +kernel
theorem dX11_textAt_10 : decode cX11_textAt 10 = .ok (.iconst 1, 1) := by decide +kernel
theorem dX11_textAt_11 : decode cX11_textAt 11 = .ok (.if_icmp .ne 10, 3) := by decide +kernel
theorem dX11_textAt_14 : decode cX11_textAt 14 = .ok (.aload_n 0, 1) := by decide +kernel
theorem dX11_textAt_15 : decode cX11_textAt 15 = .ok (.getfield 18, 3) := by decide +kernel
theorem dX11_textAt_18 : decode cX11_textAt 18 = .ok (.goto 4, 3) := by decide +kernel
theorem dX11_textAt_21 : decode cX11_textAt 21 = .ok (.aconst_null, 1) := by decide +kernel
theorem dX11_textAt_22 : decode cX11_textAt 22 = .ok (.areturn, 1) := by decide +kernel
theorem dX11_sheetAt_0 : decode cX11_sheetAt 0 = .ok (.iload_n 1, 1) := by decide +kernel
theorem dX11_sheetAt_1 : decode cX11_sheetAt 1 = .ok (.ifCond .lt 21, 3) := by decide +kernel
theorem dX11_sheetAt_4 : decode cX11_sheetAt 4 = .ok (.iload_n 1, 1) := by decide +kernel
theorem dX11_sheetAt_5 : decode cX11_sheetAt 5 = .ok (.aload_n 0, 1) := by decide +kernel
theorem dX11_sheetAt_6 : decode cX11_sheetAt 6 = .ok (.getfield 92, 3) := by decide +kernel
theorem dX11_sheetAt_9 : decode cX11_sheetAt 9 = .ok (.arraylength, 1) := by decide +kernel
theorem dX11_sheetAt_10 : decode cX11_sheetAt 10 = .ok (.if_icmp .ge 12, 3) := by decide +kernel
theorem dX11_sheetAt_13 : decode cX11_sheetAt 13 = .ok (.aload_n 0, 1) := by decide +kernel
theorem dX11_sheetAt_14 : decode cX11_sheetAt 14 = .ok (.getfield 92, 3) := by decide +kernel
theorem dX11_sheetAt_17 : decode cX11_sheetAt 17 = .ok (.iload_n 1, 1) := by decide +kernel
theorem dX11_sheetAt_18 : decode cX11_sheetAt 18 = .ok (.aaload, 1) := by decide +kernel
theorem dX11_sheetAt_19 : decode cX11_sheetAt 19 = .ok (.goto 4, 3) := by decide +kernel
theorem dX11_sheetAt_22 : decode cX11_sheetAt 22 = .ok (.aconst_null, 1) := by decide +kernel
theorem dX11_sheetAt_23 : decode cX11_sheetAt 23 = .ok (.areturn, 1) := by decide +kernel
theorem dX11_parseAnew_0 : decode cX11_parseAnew 0 = .ok (.aload_n 0, 1) := by decide +kernel
theorem dX11_parseAnew_1 : decode cX11_parseAnew 1 = .ok (.getfield 24, 3) := by decide +kernel
theorem dX11_parseAnew_4 : decode cX11_parseAnew 4 = .ok (.aload_n 0, 1) := by decide +kernel
theorem dX11_parseAnew_5 : decode cX11_parseAnew 5 = .ok (.getfield 14, 3) := by decide +kernel
theorem dX11_parseAnew_8 : decode cX11_parseAnew 8 = .ok (.invokevirtual 383, 3) := by decide +kernel
theorem dX11_parseAnew_11 : decode cX11_parseAnew 11 = .ok (.aload_n 0, 1) := by decide +kernel
theorem dX11_parseAnew_12 : decode cX11_parseAnew 12 = .ok (.getfield 31, 3) := by decide +kernel
theorem dX11_parseAnew_15 : decode cX11_parseAnew 15 = .ok (.aload_n 0, 1) := by decide +kernel
theorem dX11_parseAnew_16 : decode cX11_parseAnew 16 = .ok (.getfield 18, 3) := by decide +kernel
theorem dX11_parseAnew_19 : decode cX11_parseAnew 19 = .ok (.invokevirtual 387, 3) := by decide +kernel
theorem dX11_parseAnew_22 : decode cX11_parseAnew 22 = .ok (.aload_n 0, 1) := by decide +kernel
theorem dX11_parseAnew_23 : decode cX11_parseAnew 23 = .ok (.getfield 47, 3) := by decide +kernel
theorem dX11_parseAnew_26 : decode cX11_parseAnew 26 = .ok (.invokevirtual 155, 3) := by decide +kernel
theorem dX11_parseAnew_29 : decode cX11_parseAnew 29 = .ok (.return_, 1) := by decide +kernel
theorem dX11_found_0 : decode cX11_found 0 = .ok (.aload_n 0, 1) := by decide +kernel
theorem dX11_found_1 : decode cX11_found 1 = .ok (.iload_n 1, 1) := by decide +kernel
theorem dX11_found_2 : decode cX11_found 2 = .ok (.putfield 307, 3) := by decide +kernel
theorem dX11_found_5 : decode cX11_found 5 = .ok (.bipush (-10), 2) := by decide +kernel
theorem dX11_found_7 : decode cX11_found 7 = .ok (.iload_n 1, 1) := by decide +kernel
theorem dX11_found_8 : decode cX11_found 8 = .ok (.isub, 1) := by decide +kernel
theorem dX11_found_9 : decode cX11_found 9 = .ok (.ireturn, 1) := by decide +kernel
theorem dX11_within_0 : decode cX11_within 0 = .ok (.iload_n 0, 1) := by decide +kernel
theorem dX11_within_1 : decode cX11_within 1 = .ok (.iload_n 1, 1) := by decide +kernel
theorem dX11_within_2 : decode cX11_within 2 = .ok (.if_icmp .lt 12, 3) := by decide +kernel
theorem dX11_within_5 : decode cX11_within 5 = .ok (.iload_n 0, 1) := by decide +kernel
theorem dX11_within_6 : decode cX11_within 6 = .ok (.iload_n 2, 1) := by decide +kernel
theorem dX11_within_7 : decode cX11_within 7 = .ok (.if_icmp .gt 7, 3) := by decide +kernel
theorem dX11_within_10 : decode cX11_within 10 = .ok (.iconst 1, 1) := by decide +kernel
theorem dX11_within_11 : decode cX11_within 11 = .ok (.goto 4, 3) := by decide +kernel
theorem dX11_within_14 : decode cX11_within 14 = .ok (.iconst 0, 1) := by decide +kernel
theorem dX11_within_15 : decode cX11_within 15 = .ok (.ireturn, 1) := by decide +kernel
theorem dX11_refusal_0 : decode cX11_refusal 0 = .ok (.ldc2_w 388, 3) := by decide +kernel
theorem dX11_refusal_3 : decode cX11_refusal 3 = .ok (.iload_n 0, 1) := by decide +kernel
theorem dX11_refusal_4 : decode cX11_refusal 4 = .ok (.i2l, 1) := by decide +kernel
theorem dX11_refusal_5 : decode cX11_refusal 5 = .ok (.lsub, 1) := by decide +kernel
theorem dX11_refusal_6 : decode cX11_refusal 6 = .ok (.lreturn, 1) := by decide +kernel
theorem dX11_fraction_0 : decode cX11_fraction 0 = .ok (.lload_n 0, 1) := by decide +kernel
theorem dX11_fraction_1 : decode cX11_fraction 1 = .ok (.lload_n 2, 1) := by decide +kernel
theorem dX11_fraction_2 : decode cX11_fraction 2 = .ok (.invokestatic 390, 3) := by decide +kernel
theorem dX11_fraction_5 : decode cX11_fraction 5 = .ok (.lstore 5, 2) := by decide +kernel
theorem dX11_fraction_7 : decode cX11_fraction 7 = .ok (.lload 5, 2) := by decide +kernel
theorem dX11_fraction_9 : decode cX11_fraction 9 = .ok (.lconst 0, 1) := by decide +kernel
theorem dX11_fraction_10 : decode cX11_fraction 10 = .ok (.lcmp, 1) := by decide +kernel
theorem dX11_fraction_11 : decode cX11_fraction 11 = .ok (.ifCond .gt 14, 3) := by decide +kernel
theorem dX11_fraction_14 : decode cX11_fraction 14 = .ok (.iload 4, 2) := by decide +kernel
theorem dX11_fraction_16 : decode cX11_fraction 16 = .ok (.ifCond .ne 7, 3) := by decide +kernel
theorem dX11_fraction_19 : decode cX11_fraction 19 = .ok (.lconst 0, 1) := by decide +kernel
theorem dX11_fraction_20 : decode cX11_fraction 20 = .ok (.goto 4, 3) := by decide +kernel
theorem dX11_fraction_23 : decode cX11_fraction 23 = .ok (.lconst 1, 1) := by decide +kernel
theorem dX11_fraction_24 : decode cX11_fraction 24 = .ok (.lreturn, 1) := by decide +kernel
theorem dX11_fraction_25 : decode cX11_fraction 25 = .ok (.iload 4, 2) := by decide +kernel
theorem dX11_fraction_27 : decode cX11_fraction 27 = .ok (.ifCond .ne 7, 3) := by decide +kernel
theorem dX11_fraction_30 : decode cX11_fraction 30 = .ok (.lload_n 0, 1) := by decide +kernel
theorem dX11_fraction_31 : decode cX11_fraction 31 = .ok (.goto 4, 3) := by decide +kernel
theorem dX11_fraction_34 : decode cX11_fraction 34 = .ok (.lload_n 2, 1) := by decide +kernel
theorem dX11_fraction_35 : decode cX11_fraction 35 = .ok (.lload 5, 2) := by decide +kernel
theorem dX11_fraction_37 : decode cX11_fraction 37 = .ok (.ldiv, 1) := by decide +kernel
theorem dX11_fraction_38 : decode cX11_fraction 38 = .ok (.lreturn, 1) := by decide +kernel
theorem dX11_greatestDivisor_0 : decode cX11_greatestDivisor 0 = .ok (.lload_n 0, 1) := by decide +kernel
theorem dX11_greatestDivisor_1 : decode cX11_greatestDivisor 1 = .ok (.lstore 4, 2) := by decide +kernel
theorem dX11_greatestDivisor_3 : decode cX11_greatestDivisor 3 = .ok (.lload_n 2, 1) := by decide +kernel
theorem dX11_greatestDivisor_4 : decode cX11_greatestDivisor 4 = .ok (.lstore 6, 2) := by decide +kernel
theorem dX11_greatestDivisor_6 : decode cX11_greatestDivisor 6 = .ok (.iconst 0, 1) := by decide +kernel
theorem dX11_greatestDivisor_7 : decode cX11_greatestDivisor 7 = .ok (.istore 8, 2) := by decide +kernel
theorem dX11_greatestDivisor_9 : decode cX11_greatestDivisor 9 = .ok (.iload 8, 2) := by decide +kernel
theorem dX11_greatestDivisor_11 : decode cX11_greatestDivisor 11 = .ok (.bipush 100, 2) := by decide +kernel
theorem dX11_greatestDivisor_13 : decode cX11_greatestDivisor 13 = .ok (.if_icmp .ge 31, 3) := by decide +kernel
theorem dX11_greatestDivisor_16 : decode cX11_greatestDivisor 16 = .ok (.lload 6, 2) := by decide +kernel
theorem dX11_greatestDivisor_18 : decode cX11_greatestDivisor 18 = .ok (.lconst 0, 1) := by decide +kernel
theorem dX11_greatestDivisor_19 : decode cX11_greatestDivisor 19 = .ok (.lcmp, 1) := by decide +kernel
theorem dX11_greatestDivisor_20 : decode cX11_greatestDivisor 20 = .ok (.ifCond .eq 24, 3) := by decide +kernel
theorem dX11_greatestDivisor_23 : decode cX11_greatestDivisor 23 = .ok (.lload 4, 2) := by decide +kernel
theorem dX11_greatestDivisor_25 : decode cX11_greatestDivisor 25 = .ok (.lload 6, 2) := by decide +kernel
theorem dX11_greatestDivisor_27 : decode cX11_greatestDivisor 27 = .ok (.lrem, 1) := by decide +kernel
theorem dX11_greatestDivisor_28 : decode cX11_greatestDivisor 28 = .ok (.lstore 9, 2) := by decide +kernel
theorem dX11_greatestDivisor_30 : decode cX11_greatestDivisor 30 = .ok (.lload 6, 2) := by decide +kernel
theorem dX11_greatestDivisor_32 : decode cX11_greatestDivisor 32 = .ok (.lstore 4, 2) := by decide +kernel
theorem dX11_greatestDivisor_34 : decode cX11_greatestDivisor 34 = .ok (.lload 9, 2) := by decide +kernel
theorem dX11_greatestDivisor_36 : decode cX11_greatestDivisor 36 = .ok (.lstore 6, 2) := by decide +kernel
theorem dX11_greatestDivisor_38 : decode cX11_greatestDivisor 38 = .ok (.iinc 8 1, 3) := by decide +kernel
theorem dX11_greatestDivisor_41 : decode cX11_greatestDivisor 41 = .ok (.goto (-32), 3) := by decide +kernel
theorem dX11_greatestDivisor_44 : decode cX11_greatestDivisor 44 = .ok (.lload 4, 2) := by decide +kernel
theorem dX11_greatestDivisor_46 : decode cX11_greatestDivisor 46 = .ok (.lreturn, 1) := by decide +kernel
theorem dJ6_bitCount_0f7a4_0 : decode cJ6_bitCount_0f7a4 0 = .ok (.iload_n 0, 1) := by decide +kernel
theorem dJ6_bitCount_0f7a4_1 : decode cJ6_bitCount_0f7a4 1 = .ok (.iload_n 0, 1) := by decide +kernel
theorem dJ6_bitCount_0f7a4_2 : decode cJ6_bitCount_0f7a4 2 = .ok (.iconst 1, 1) := by decide +kernel
theorem dJ6_bitCount_0f7a4_3 : decode cJ6_bitCount_0f7a4 3 = .ok (.iushr, 1) := by decide +kernel
theorem dJ6_bitCount_0f7a4_4 : decode cJ6_bitCount_0f7a4 4 = .ok (.ldc_w 265, 3) := by decide +kernel
theorem dJ6_bitCount_0f7a4_7 : decode cJ6_bitCount_0f7a4 7 = .ok (.iand, 1) := by decide +kernel
theorem dJ6_bitCount_0f7a4_8 : decode cJ6_bitCount_0f7a4 8 = .ok (.isub, 1) := by decide +kernel
theorem dJ6_bitCount_0f7a4_9 : decode cJ6_bitCount_0f7a4 9 = .ok (.istore_n 0, 1) := by decide +kernel
theorem dJ6_bitCount_0f7a4_10 : decode cJ6_bitCount_0f7a4 10 = .ok (.iload_n 0, 1) := by decide +kernel
theorem dJ6_bitCount_0f7a4_11 : decode cJ6_bitCount_0f7a4 11 = .ok (.ldc_w 266, 3) := by decide +kernel
theorem dJ6_bitCount_0f7a4_14 : decode cJ6_bitCount_0f7a4 14 = .ok (.iand, 1) := by decide +kernel
theorem dJ6_bitCount_0f7a4_15 : decode cJ6_bitCount_0f7a4 15 = .ok (.iload_n 0, 1) := by decide +kernel
theorem dJ6_bitCount_0f7a4_16 : decode cJ6_bitCount_0f7a4 16 = .ok (.iconst 2, 1) := by decide +kernel
theorem dJ6_bitCount_0f7a4_17 : decode cJ6_bitCount_0f7a4 17 = .ok (.iushr, 1) := by decide +kernel
theorem dJ6_bitCount_0f7a4_18 : decode cJ6_bitCount_0f7a4 18 = .ok (.ldc_w 266, 3) := by decide +kernel
theorem dJ6_bitCount_0f7a4_21 : decode cJ6_bitCount_0f7a4 21 = .ok (.iand, 1) := by decide +kernel
theorem dJ6_bitCount_0f7a4_22 : decode cJ6_bitCount_0f7a4 22 = .ok (.iadd, 1) := by decide +kernel
theorem dJ6_bitCount_0f7a4_23 : decode cJ6_bitCount_0f7a4 23 = .ok (.istore_n 0, 1) := by decide +kernel
theorem dJ6_bitCount_0f7a4_24 : decode cJ6_bitCount_0f7a4 24 = .ok (.iload_n 0, 1) := by decide +kernel
theorem dJ6_bitCount_0f7a4_25 : decode cJ6_bitCount_0f7a4 25 = .ok (.iload_n 0, 1) := by decide +kernel
theorem dJ6_bitCount_0f7a4_26 : decode cJ6_bitCount_0f7a4 26 = .ok (.iconst 4, 1) := by decide +kernel
theorem dJ6_bitCount_0f7a4_27 : decode cJ6_bitCount_0f7a4 27 = .ok (.iushr, 1) := by decide +kernel
theorem dJ6_bitCount_0f7a4_28 : decode cJ6_bitCount_0f7a4 28 = .ok (.iadd, 1) := by decide +kernel
theorem dJ6_bitCount_0f7a4_29 : decode cJ6_bitCount_0f7a4 29 = .ok (.ldc_w 267, 3) := by decide +kernel
theorem dJ6_bitCount_0f7a4_32 : decode cJ6_bitCount_0f7a4 32 = .ok (.iand, 1) := by decide +kernel
theorem dJ6_bitCount_0f7a4_33 : decode cJ6_bitCount_0f7a4 33 = .ok (.istore_n 0, 1) := by decide +kernel
theorem dJ6_bitCount_0f7a4_34 : decode cJ6_bitCount_0f7a4 34 = .ok (.iload_n 0, 1) := by decide +kernel
theorem dJ6_bitCount_0f7a4_35 : decode cJ6_bitCount_0f7a4 35 = .ok (.iload_n 0, 1) := by decide +kernel
theorem dJ6_bitCount_0f7a4_36 : decode cJ6_bitCount_0f7a4 36 = .ok (.bipush 8, 2) := by decide +kernel
theorem dJ6_bitCount_0f7a4_38 : decode cJ6_bitCount_0f7a4 38 = .ok (.iushr, 1) := by decide +kernel
theorem dJ6_bitCount_0f7a4_39 : decode cJ6_bitCount_0f7a4 39 = .ok (.iadd, 1) := by decide +kernel
theorem dJ6_bitCount_0f7a4_40 : decode cJ6_bitCount_0f7a4 40 = .ok (.istore_n 0, 1) := by decide +kernel
theorem dJ6_bitCount_0f7a4_41 : decode cJ6_bitCount_0f7a4 41 = .ok (.iload_n 0, 1) := by decide +kernel
theorem dJ6_bitCount_0f7a4_42 : decode cJ6_bitCount_0f7a4 42 = .ok (.iload_n 0, 1) := by decide +kernel
theorem dJ6_bitCount_0f7a4_43 : decode cJ6_bitCount_0f7a4 43 = .ok (.bipush 16, 2) := by decide +kernel
theorem dJ6_bitCount_0f7a4_45 : decode cJ6_bitCount_0f7a4 45 = .ok (.iushr, 1) := by decide +kernel
theorem dJ6_bitCount_0f7a4_46 : decode cJ6_bitCount_0f7a4 46 = .ok (.iadd, 1) := by decide +kernel
theorem dJ6_bitCount_0f7a4_47 : decode cJ6_bitCount_0f7a4 47 = .ok (.istore_n 0, 1) := by decide +kernel
theorem dJ6_bitCount_0f7a4_48 : decode cJ6_bitCount_0f7a4 48 = .ok (.iload_n 0, 1) := by decide +kernel
theorem dJ6_bitCount_0f7a4_49 : decode cJ6_bitCount_0f7a4 49 = .ok (.bipush 63, 2) := by decide +kernel
theorem dJ6_bitCount_0f7a4_51 : decode cJ6_bitCount_0f7a4 51 = .ok (.iand, 1) := by decide +kernel
theorem dJ6_bitCount_0f7a4_52 : decode cJ6_bitCount_0f7a4 52 = .ok (.ireturn, 1) := by decide +kernel
theorem dJ9_max_7cf53_0 : decode cJ9_max_7cf53 0 = .ok (.iload_n 0, 1) := by decide +kernel
theorem dJ9_max_7cf53_1 : decode cJ9_max_7cf53 1 = .ok (.iload_n 1, 1) := by decide +kernel
theorem dJ9_max_7cf53_2 : decode cJ9_max_7cf53 2 = .ok (.if_icmp .lt 7, 3) := by decide +kernel
theorem dJ9_max_7cf53_5 : decode cJ9_max_7cf53 5 = .ok (.iload_n 0, 1) := by decide +kernel
theorem dJ9_max_7cf53_6 : decode cJ9_max_7cf53 6 = .ok (.goto 4, 3) := by decide +kernel
theorem dJ9_max_7cf53_9 : decode cJ9_max_7cf53 9 = .ok (.iload_n 1, 1) := by decide +kernel
theorem dJ9_max_7cf53_10 : decode cJ9_max_7cf53 10 = .ok (.ireturn, 1) := by decide +kernel
theorem dJ9_min_7cf53_0 : decode cJ9_min_7cf53 0 = .ok (.iload_n 0, 1) := by decide +kernel
theorem dJ9_min_7cf53_1 : decode cJ9_min_7cf53 1 = .ok (.iload_n 1, 1) := by decide +kernel
theorem dJ9_min_7cf53_2 : decode cJ9_min_7cf53 2 = .ok (.if_icmp .gt 7, 3) := by decide +kernel
theorem dJ9_min_7cf53_5 : decode cJ9_min_7cf53 5 = .ok (.iload_n 0, 1) := by decide +kernel
theorem dJ9_min_7cf53_6 : decode cJ9_min_7cf53 6 = .ok (.goto 4, 3) := by decide +kernel
theorem dJ9_min_7cf53_9 : decode cJ9_min_7cf53 9 = .ok (.iload_n 1, 1) := by decide +kernel
theorem dJ9_min_7cf53_10 : decode cJ9_min_7cf53 10 = .ok (.ireturn, 1) := by decide +kernel
theorem dJ7_fill_53178_0 : decode cJ7_fill_53178 0 = .ok (.iconst 0, 1) := by decide +kernel
theorem dJ7_fill_53178_1 : decode cJ7_fill_53178 1 = .ok (.istore_n 2, 1) := by decide +kernel
theorem dJ7_fill_53178_2 : decode cJ7_fill_53178 2 = .ok (.aload_n 0, 1) := by decide +kernel
theorem dJ7_fill_53178_3 : decode cJ7_fill_53178 3 = .ok (.arraylength, 1) := by decide +kernel
theorem dJ7_fill_53178_4 : decode cJ7_fill_53178 4 = .ok (.istore_n 3, 1) := by decide +kernel
theorem dJ7_fill_53178_5 : decode cJ7_fill_53178 5 = .ok (.iload_n 2, 1) := by decide +kernel
theorem dJ7_fill_53178_6 : decode cJ7_fill_53178 6 = .ok (.iload_n 3, 1) := by decide +kernel
theorem dJ7_fill_53178_7 : decode cJ7_fill_53178 7 = .ok (.if_icmp .ge 13, 3) := by decide +kernel
theorem dJ7_fill_53178_10 : decode cJ7_fill_53178 10 = .ok (.aload_n 0, 1) := by decide +kernel
theorem dJ7_fill_53178_11 : decode cJ7_fill_53178 11 = .ok (.iload_n 2, 1) := by decide +kernel
theorem dJ7_fill_53178_12 : decode cJ7_fill_53178 12 = .ok (.iload_n 1, 1) := by decide +kernel
theorem dJ7_fill_53178_13 : decode cJ7_fill_53178 13 = .ok (.iastore, 1) := by decide +kernel
theorem dJ7_fill_53178_14 : decode cJ7_fill_53178 14 = .ok (.iinc 2 1, 3) := by decide +kernel
theorem dJ7_fill_53178_17 : decode cJ7_fill_53178 17 = .ok (.goto (-12), 3) := by decide +kernel
theorem dJ7_fill_53178_20 : decode cJ7_fill_53178 20 = .ok (.return_, 1) := by decide +kernel
