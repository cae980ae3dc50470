theorem dX6_init_0 : decode cX6_init 0 = .ok (.aload_n 0, 1) := by decide +kernel
theorem dX6_init_1 : decode cX6_init 1 = .ok (.invokespecial 1, 3) := by decide +kernel
theorem dX6_init_4 : decode cX6_init 4 = .ok (.aload_n 0, 1) := by decide +kernel
theorem dX6_init_5 : decode cX6_init 5 = .ok (.bipush 56, 2) := by decide +kernel
theorem dX6_init_7 : decode cX6_init 7 = .ok (.newarray .int, 2) := by decide +kernel
theorem dX6_init_9 : decode cX6_init 9 = .ok (.putfield 7, 3) := by decide +kernel
theorem dX6_init_12 : decode cX6_init 12 = .ok (.aload_n 0, 1) := by decide +kernel
theorem dX6_init_13 : decode cX6_init 13 = .ok (.bipush 67, 2) := by decide +kernel
theorem dX6_init_15 : decode cX6_init 15 = .ok (.newarray .int, 2) := by decide +kernel
theorem dX6_init_17 : decode cX6_init 17 = .ok (.putfield 13, 3) := by decide +kernel
theorem dX6_init_20 : decode cX6_init 20 = .ok (.aload_n 0, 1) := by decide +kernel
theorem dX6_init_21 : decode cX6_init 21 = .ok (.bipush 67, 2) := by decide +kernel
theorem dX6_init_23 : decode cX6_init 23 = .ok (.newarray .int, 2) := by decide +kernel
theorem dX6_init_25 : decode cX6_init 25 = .ok (.putfield 16, 3) := by decide +kernel
theorem dX6_init_28 : decode cX6_init 28 = .ok (.aload_n 0, 1) := by decide +kernel
theorem dX6_init_29 : decode cX6_init 29 = .ok (.bipush 67, 2) := by decide +kernel
theorem dX6_init_31 : decode cX6_init 31 = .ok (.newarray .int, 2) := by decide +kernel
theorem dX6_init_33 : decode cX6_init 33 = .ok (.putfield 19, 3) := by decide +kernel
theorem dX6_init_36 : decode cX6_init 36 = .ok (.aload_n 0, 1) := by decide +kernel
theorem dX6_init_37 : decode cX6_init 37 = .ok (.sipush 938, 3) := by decide +kernel
theorem dX6_init_40 : decode cX6_init 40 = .ok (.newarray .int, 2) := by decide +kernel
theorem dX6_init_42 : decode cX6_init 42 = .ok (.putfield 22, 3) := by decide +kernel
theorem dX6_init_45 : decode cX6_init 45 = .ok (.aload_n 0, 1) := by decide +kernel
theorem dX6_init_46 : decode cX6_init 46 = .ok (.sipush 134, 3) := by decide +kernel
theorem dX6_init_49 : decode cX6_init 49 = .ok (.newarray .int, 2) := by decide +kernel
theorem dX6_init_51 : decode cX6_init 51 = .ok (.putfield 25, 3) := by decide +kernel
theorem dX6_init_54 : decode cX6_init 54 = .ok (.aload_n 0, 1) := by decide +kernel
theorem dX6_init_55 : decode cX6_init 55 = .ok (.iconst 2, 1) := by decide +kernel
theorem dX6_init_56 : decode cX6_init 56 = .ok (.newarray .boolean, 2) := by decide +kernel
theorem dX6_init_58 : decode cX6_init 58 = .ok (.putfield 28, 3) := by decide +kernel
theorem dX6_init_61 : decode cX6_init 61 = .ok (.aload_n 0, 1) := by decide +kernel
theorem dX6_init_62 : decode cX6_init 62 = .ok (.bipush 6, 2) := by decide +kernel
theorem dX6_init_64 : decode cX6_init 64 = .ok (.newarray .int, 2) := by decide +kernel
theorem dX6_init_66 : decode cX6_init 66 = .ok (.putfield 32, 3) := by decide +kernel
theorem dX6_init_69 : decode cX6_init 69 = .ok (.aload_n 0, 1) := by decide +kernel
theorem dX6_init_70 : decode cX6_init 70 = .ok (.bipush 6, 2) := by decide +kernel
theorem dX6_init_72 : decode cX6_init 72 = .ok (.newarray .int, 2) := by decide +kernel
theorem dX6_init_74 : decode cX6_init 74 = .ok (.putfield 35, 3) := by decide +kernel
theorem dX6_init_77 : decode cX6_init 77 = .ok (.aload_n 0, 1) := by decide +kernel
theorem dX6_init_78 : decode cX6_init 78 = .ok (.bipush 32, 2) := by decide +kernel
theorem dX6_init_80 : decode cX6_init 80 = .ok (.newarray .int, 2) := by decide +kernel
theorem dX6_init_82 : decode cX6_init 82 = .ok (.putfield 38, 3) := by decide +kernel
theorem dX6_init_85 : decode cX6_init 85 = .ok (.aload_n 0, 1) := by decide +kernel
theorem dX6_init_86 : decode cX6_init 86 = .ok (.getfield 16, 3) := by decide +kernel
theorem dX6_init_89 : decode cX6_init 89 = .ok (.iconst 0, 1) := by decide +kernel
theorem dX6_init_90 : decode cX6_init 90 = .ok (.iconst 1, 1) := by decide +kernel
theorem dX6_init_91 : decode cX6_init 91 = .ok (.iastore, 1) := by decide +kernel
theorem dX6_init_92 : decode cX6_init 92 = .ok (.aload_n 0, 1) := by decide +kernel
theorem dX6_init_93 : decode cX6_init 93 = .ok (.getfield 16, 3) := by decide +kernel
theorem dX6_init_96 : decode cX6_init 96 = .ok (.iconst 1, 1) := by decide +kernel
theorem dX6_init_97 : decode cX6_init 97 = .ok (.iconst 1, 1) := by decide +kernel
theorem dX6_init_98 : decode cX6_init 98 = .ok (.iastore, 1) := by decide +kernel
theorem dX6_init_99 : decode cX6_init 99 = .ok (.aload_n 0, 1) := by decide +kernel
theorem dX6_init_100 : decode cX6_init 100 = .ok (.getfield 16, 3) := by decide +kernel
theorem dX6_init_103 : decode cX6_init 103 = .ok (.iconst 2, 1) := by decide +kernel
theorem dX6_init_104 : decode cX6_init 104 = .ok (.bipush 9, 2) := by decide +kernel
theorem dX6_init_106 : decode cX6_init 106 = .ok (.iastore, 1) := by decide +kernel
theorem dX6_init_107 : decode cX6_init 107 = .ok (.aload_n 0, 1) := by decide +kernel
theorem dX6_init_108 : decode cX6_init 108 = .ok (.getfield 16, 3) := by decide +kernel
theorem dX6_init_111 : decode cX6_init 111 = .ok (.bipush 27, 2) := by decide +kernel
theorem dX6_init_113 : decode cX6_init 113 = .ok (.bipush 9, 2) := by decide +kernel
theorem dX6_init_115 : decode cX6_init 115 = .ok (.iastore, 1) := by decide +kernel
theorem dX6_init_116 : decode cX6_init 116 = .ok (.aload_n 0, 1) := by decide +kernel
theorem dX6_init_117 : decode cX6_init 117 = .ok (.getfield 16, 3) := by decide +kernel
theorem dX6_init_120 : decode cX6_init 120 = .ok (.invokestatic 41, 3) := by decide +kernel
theorem dX6_init_123 : decode cX6_init 123 = .ok (.return_, 1) := by decide +kernel
theorem dX6_in_0 : decode cX6_in 0 = .ok (.lload_n 0, 1) := by decide +kernel
theorem dX6_in_1 : decode cX6_in 1 = .ok (.lload_n 2, 1) := by decide +kernel
theorem dX6_in_2 : decode cX6_in 2 = .ok (.lcmp, 1) := by decide +kernel
theorem dX6_in_3 : decode cX6_in 3 = .ok (.ifCond .lt 14, 3) := by decide +kernel
theorem dX6_in_6 : decode cX6_in 6 = .ok (.lload_n 0, 1) := by decide +kernel
theorem dX6_in_7 : decode cX6_in 7 = .ok (.lload 4, 2) := by decide +kernel
theorem dX6_in_9 : decode cX6_in 9 = .ok (.lcmp, 1) := by decide +kernel
theorem dX6_in_10 : decode cX6_in 10 = .ok (.ifCond .gt 7, 3) := by decide +kernel
theorem dX6_in_13 : decode cX6_in 13 = .ok (.iconst 1, 1) := by decide +kernel
theorem dX6_in_14 : decode cX6_in 14 = .ok (.goto 4, 3) := by decide +kernel
theorem dX6_in_17 : decode cX6_in 17 = .ok (.iconst 0, 1) := by decide +kernel
theorem dX6_in_18 : decode cX6_in 18 = .ok (.ireturn, 1) := by decide +kernel
theorem dX6_has_0 : decode cX6_has 0 = .ok (.iload_n 0, 1) := by decide +kernel
theorem dX6_has_1 : decode cX6_has 1 = .ok (.iload_n 1, 1) := by decide +kernel
theorem dX6_has_2 : decode cX6_has 2 = .ok (.ishr, 1) := by decide +kernel
theorem dX6_has_3 : decode cX6_has 3 = .ok (.iconst 1, 1) := by decide +kernel
theorem dX6_has_4 : decode cX6_has 4 = .ok (.iand, 1) := by decide +kernel
theorem dX6_has_5 : decode cX6_has 5 = .ok (.iconst 1, 1) := by decide +kernel
theorem dX6_has_6 : decode cX6_has 6 = .ok (.if_icmp .ne 7, 3) := by decide +kernel
theorem dX6_has_9 : decode cX6_has 9 = .ok (.iconst 1, 1) := by decide +kernel
theorem dX6_has_10 : decode cX6_has 10 = .ok (.goto 4, 3) := by decide +kernel
theorem dX6_has_13 : decode cX6_has 13 = .ok (.iconst 0, 1) := by decide +kernel
theorem dX6_has_14 : decode cX6_has 14 = .ok (.ireturn, 1) := by decide +kernel
theorem dX6_many_0 : decode cX6_many 0 = .ok (.iconst 0, 1) := by decide +kernel
theorem dX6_many_1 : decode cX6_many 1 = .ok (.istore_n 1, 1) := by decide +kernel
theorem dX6_many_2 : decode cX6_many 2 = .ok (.iconst 0, 1) := by decide +kernel
theorem dX6_many_3 : decode cX6_many 3 = .ok (.istore_n 2, 1) := by decide +kernel
theorem dX6_many_4 : decode cX6_many 4 = .ok (.iload_n 2, 1) := by decide +kernel
theorem dX6_many_5 : decode cX6_many 5 = .ok (.bipush 25, 2) := by decide +kernel
theorem dX6_many_7 : decode cX6_many 7 = .ok (.if_icmp .ge 17, 3) := by decide +kernel
theorem dX6_many_10 : decode cX6_many 10 = .ok (.iload_n 1, 1) := by decide +kernel
theorem dX6_many_11 : decode cX6_many 11 = .ok (.iload_n 0, 1) := by decide +kernel
theorem dX6_many_12 : decode cX6_many 12 = .ok (.iload_n 2, 1) := by decide +kernel
theorem dX6_many_13 : decode cX6_many 13 = .ok (.ishr, 1) := by decide +kernel
theorem dX6_many_14 : decode cX6_many 14 = .ok (.iconst 1, 1) := by decide +kernel
theorem dX6_many_15 : decode cX6_many 15 = .ok (.iand, 1) := by decide +kernel
theorem dX6_many_16 : decode cX6_many 16 = .ok (.iadd, 1) := by decide +kernel
theorem dX6_many_17 : decode cX6_many 17 = .ok (.istore_n 1, 1) := by decide +kernel
theorem dX6_many_18 : decode cX6_many 18 = .ok (.iinc 2 1, 3) := by decide +kernel
theorem dX6_many_21 : decode cX6_many 21 = .ok (.goto (-17), 3) := by decide +kernel
theorem dX6_many_24 : decode cX6_many 24 = .ok (.iload_n 1, 1) := by decide +kernel
theorem dX6_many_25 : decode cX6_many 25 = .ok (.ireturn, 1) := by decide +kernel
theorem dX6_power_0 : decode cX6_power 0 = .ok (.iconst 1, 1) := by decide +kernel
theorem dX6_power_1 : decode cX6_power 1 = .ok (.istore_n 2, 1) := by decide +kernel
theorem dX6_power_2 : decode cX6_power 2 = .ok (.iconst 0, 1) := by decide +kernel
theorem dX6_power_3 : decode cX6_power 3 = .ok (.istore_n 3, 1) := by decide +kernel
theorem dX6_power_4 : decode cX6_power 4 = .ok (.iload_n 3, 1) := by decide +kernel
theorem dX6_power_5 : decode cX6_power 5 = .ok (.iload_n 1, 1) := by decide +kernel
theorem dX6_power_6 : decode cX6_power 6 = .ok (.if_icmp .ge 13, 3) := by decide +kernel
theorem dX6_power_9 : decode cX6_power 9 = .ok (.iload_n 2, 1) := by decide +kernel
theorem dX6_power_10 : decode cX6_power 10 = .ok (.iload_n 0, 1) := by decide +kernel
theorem dX6_power_11 : decode cX6_power 11 = .ok (.imul, 1) := by decide +kernel
theorem dX6_power_12 : decode cX6_power 12 = .ok (.istore_n 2, 1) := by decide +kernel
theorem dX6_power_13 : decode cX6_power 13 = .ok (.iinc 3 1, 3) := by decide +kernel
theorem dX6_power_16 : decode cX6_power 16 = .ok (.goto (-12), 3) := by decide +kernel
theorem dX6_power_19 : decode cX6_power 19 = .ok (.iload_n 2, 1) := by decide +kernel
theorem dX6_power_20 : decode cX6_power 20 = .ok (.ireturn, 1) := by decide +kernel
theorem dX6_divisor_0 : decode cX6_divisor 0 = .ok (.iload_n 0, 1) := by decide +kernel
theorem dX6_divisor_1 : decode cX6_divisor 1 = .ok (.ifCond .ge 8, 3) := by decide +kernel
theorem dX6_divisor_4 : decode cX6_divisor 4 = .ok (.iload_n 0, 1) := by decide +kernel
theorem dX6_divisor_5 : decode cX6_divisor 5 = .ok (.ineg, 1) := by decide +kernel
theorem dX6_divisor_6 : decode cX6_divisor 6 = .ok (.goto 4, 3) := by decide +kernel
theorem dX6_divisor_9 : decode cX6_divisor 9 = .ok (.iload_n 0, 1) := by decide +kernel
theorem dX6_divisor_10 : decode cX6_divisor 10 = .ok (.istore_n 2, 1) := by decide +kernel
theorem dX6_divisor_11 : decode cX6_divisor 11 = .ok (.iload_n 1, 1) := by decide +kernel
theorem dX6_divisor_12 : decode cX6_divisor 12 = .ok (.istore_n 3, 1) := by decide +kernel
theorem dX6_divisor_13 : decode cX6_divisor 13 = .ok (.iload_n 3, 1) := by decide +kernel
theorem dX6_divisor_14 : decode cX6_divisor 14 = .ok (.ifCond .eq 16, 3) := by decide +kernel
theorem dX6_divisor_17 : decode cX6_divisor 17 = .ok (.iload_n 2, 1) := by decide +kernel
theorem dX6_divisor_18 : decode cX6_divisor 18 = .ok (.iload_n 3, 1) := by decide +kernel
theorem dX6_divisor_19 : decode cX6_divisor 19 = .ok (.irem, 1) := by decide +kernel
theorem dX6_divisor_20 : decode cX6_divisor 20 = .ok (.istore 4, 2) := by decide +kernel
theorem dX6_divisor_22 : decode cX6_divisor 22 = .ok (.iload_n 3, 1) := by decide +kernel
theorem dX6_divisor_23 : decode cX6_divisor 23 = .ok (.istore_n 2, 1) := by decide +kernel
theorem dX6_divisor_24 : decode cX6_divisor 24 = .ok (.iload 4, 2) := by decide +kernel
theorem dX6_divisor_26 : decode cX6_divisor 26 = .ok (.istore_n 3, 1) := by decide +kernel
theorem dX6_divisor_27 : decode cX6_divisor 27 = .ok (.goto (-14), 3) := by decide +kernel
theorem dX6_divisor_30 : decode cX6_divisor 30 = .ok (.iload_n 2, 1) := by decide +kernel
theorem dX6_divisor_31 : decode cX6_divisor 31 = .ok (.ireturn, 1) := by decide +kernel
theorem dX6_fraction_0 : decode cX6_fraction 0 = .ok (.iload_n 0, 1) := by decide +kernel
theorem dX6_fraction_1 : decode cX6_fraction 1 = .ok (.iload_n 1, 1) := by decide +kernel
theorem dX6_fraction_2 : decode cX6_fraction 2 = .ok (.invokestatic 49, 3) := by decide +kernel
theorem dX6_fraction_5 : decode cX6_fraction 5 = .ok (.istore_n 3, 1) := by decide +kernel
theorem dX6_fraction_6 : decode cX6_fraction 6 = .ok (.iload_n 2, 1) := by decide +kernel
theorem dX6_fraction_7 : decode cX6_fraction 7 = .ok (.ifCond .eq 9, 3) := by decide +kernel
theorem dX6_fraction_10 : decode cX6_fraction 10 = .ok (.iload_n 0, 1) := by decide +kernel
theorem dX6_fraction_11 : decode cX6_fraction 11 = .ok (.iload_n 3, 1) := by decide +kernel
theorem dX6_fraction_12 : decode cX6_fraction 12 = .ok (.idiv, 1) := by decide +kernel
theorem dX6_fraction_13 : decode cX6_fraction 13 = .ok (.goto 6, 3) := by decide +kernel
theorem dX6_fraction_16 : decode cX6_fraction 16 = .ok (.iload_n 1, 1) := by decide +kernel
theorem dX6_fraction_17 : decode cX6_fraction 17 = .ok (.iload_n 3, 1) := by decide +kernel
theorem dX6_fraction_18 : decode cX6_fraction 18 = .ok (.idiv, 1) := by decide +kernel
theorem dX6_fraction_19 : decode cX6_fraction 19 = .ok (.ireturn, 1) := by decide +kernel
theorem dX6_openRule_0 : decode cX6_openRule 0 = .ok (.bipush 52, 2) := by decide +kernel
theorem dX6_openRule_2 : decode cX6_openRule 2 = .ok (.istore_n 1, 1) := by decide +kernel
theorem dX6_openRule_3 : decode cX6_openRule 3 = .ok (.iload_n 1, 1) := by decide +kernel
theorem dX6_openRule_4 : decode cX6_openRule 4 = .ok (.bipush 67, 2) := by decide +kernel
theorem dX6_openRule_6 : decode cX6_openRule 6 = .ok (.if_icmp .ge 13, 3) := by decide +kernel
theorem dX6_openRule_9 : decode cX6_openRule 9 = .ok (.aload_n 0, 1) := by decide +kernel
theorem dX6_openRule_10 : decode cX6_openRule 10 = .ok (.iload_n 1, 1) := by decide +kernel
theorem dX6_openRule_11 : decode cX6_openRule 11 = .ok (.iconst 0, 1) := by decide +kernel
theorem dX6_openRule_12 : decode cX6_openRule 12 = .ok (.iastore, 1) := by decide +kernel
theorem dX6_openRule_13 : decode cX6_openRule 13 = .ok (.iinc 1 1, 3) := by decide +kernel
theorem dX6_openRule_16 : decode cX6_openRule 16 = .ok (.goto (-13), 3) := by decide +kernel
theorem dX6_openRule_19 : decode cX6_openRule 19 = .ok (.aload_n 0, 1) := by decide +kernel
theorem dX6_openRule_20 : decode cX6_openRule 20 = .ok (.bipush 53, 2) := by decide +kernel
theorem dX6_openRule_22 : decode cX6_openRule 22 = .ok (.iconst 1, 1) := by decide +kernel
theorem dX6_openRule_23 : decode cX6_openRule 23 = .ok (.iastore, 1) := by decide +kernel
theorem dX6_openRule_24 : decode cX6_openRule 24 = .ok (.aload_n 0, 1) := by decide +kernel
theorem dX6_openRule_25 : decode cX6_openRule 25 = .ok (.bipush 54, 2) := by decide +kernel
theorem dX6_openRule_27 : decode cX6_openRule 27 = .ok (.iconst 1, 1) := by decide +kernel
theorem dX6_openRule_28 : decode cX6_openRule 28 = .ok (.iastore, 1) := by decide +kernel
theorem dX6_openRule_29 : decode cX6_openRule 29 = .ok (.return_, 1) := by decide +kernel
theorem dX6_dotsOf_0 : decode cX6_dotsOf 0 = .ok (.aload_n 0, 1) := by decide +kernel
theorem dX6_dotsOf_1 : decode cX6_dotsOf 1 = .ok (.iconst 0, 1) := by decide +kernel
theorem dX6_dotsOf_2 : decode cX6_dotsOf 2 = .ok (.iaload, 1) := by decide +kernel
theorem dX6_dotsOf_3 : decode cX6_dotsOf 3 = .ok (.aload_n 0, 1) := by decide +kernel
theorem dX6_dotsOf_4 : decode cX6_dotsOf 4 = .ok (.iconst 1, 1) := by decide +kernel
theorem dX6_dotsOf_5 : decode cX6_dotsOf 5 = .ok (.iaload, 1) := by decide +kernel
theorem dX6_dotsOf_6 : decode cX6_dotsOf 6 = .ok (.imul, 1) := by decide +kernel
theorem dX6_dotsOf_7 : decode cX6_dotsOf 7 = .ok (.ireturn, 1) := by decide +kernel
theorem dX6_noDot_0 : decode cX6_noDot 0 = .ok (.iload_n 1, 1) := by decide +kernel
theorem dX6_noDot_1 : decode cX6_noDot 1 = .ok (.i2l, 1) := by decide +kernel
theorem dX6_noDot_2 : decode cX6_noDot 2 = .ok (.lconst 0, 1) := by decide +kernel
theorem dX6_noDot_3 : decode cX6_noDot 3 = .ok (.aload_n 0, 1) := by decide +kernel
theorem dX6_noDot_4 : decode cX6_noDot 4 = .ok (.getfield 16, 3) := by decide +kernel
theorem dX6_noDot_7 : decode cX6_noDot 7 = .ok (.invokestatic 53, 3) := by decide +kernel
theorem dX6_noDot_10 : decode cX6_noDot 10 = .ok (.iconst 1, 1) := by decide +kernel
theorem dX6_noDot_11 : decode cX6_noDot 11 = .ok (.isub, 1) := by decide +kernel
theorem dX6_noDot_12 : decode cX6_noDot 12 = .ok (.i2l, 1) := by decide +kernel
theorem dX6_noDot_13 : decode cX6_noDot 13 = .ok (.invokestatic 57, 3) := by decide +kernel
theorem dX6_noDot_16 : decode cX6_noDot 16 = .ok (.ifCond .ne 7, 3) := by decide +kernel
theorem dX6_noDot_19 : decode cX6_noDot 19 = .ok (.iconst 1, 1) := by decide +kernel
theorem dX6_noDot_20 : decode cX6_noDot 20 = .ok (.goto 4, 3) := by decide +kernel
theorem dX6_noDot_23 : decode cX6_noDot 23 = .ok (.iconst 0, 1) := by decide +kernel
theorem dX6_noDot_24 : decode cX6_noDot 24 = .ok (.ireturn, 1) := by decide +kernel
theorem dX6_write_0 : decode cX6_write 0 = .ok (.aload_n 0, 1) := by decide +kernel
theorem dX6_write_1 : decode cX6_write 1 = .ok (.iconst 0, 1) := by decide +kernel
theorem dX6_write_2 : decode cX6_write 2 = .ok (.putfield 45, 3) := by decide +kernel
theorem dX6_write_5 : decode cX6_write 5 = .ok (.iload_n 1, 1) := by decide +kernel
theorem dX6_write_6 : decode cX6_write 6 = .ok (.i2l, 1) := by decide +kernel
theorem dX6_write_7 : decode cX6_write 7 = .ok (.lconst 0, 1) := by decide +kernel
theorem dX6_write_8 : decode cX6_write 8 = .ok (.ldc2_w 61, 3) := by decide +kernel
theorem dX6_write_11 : decode cX6_write 11 = .ok (.invokestatic 57, 3) := by decide +kernel
theorem dX6_write_14 : decode cX6_write 14 = .ok (.ifCond .ne 6, 3) := by decide +kernel
theorem dX6_write_17 : decode cX6_write 17 = .ok (.bipush (-2), 2) := by decide +kernel
theorem dX6_write_19 : decode cX6_write 19 = .ok (.ireturn, 1) := by decide +kernel
theorem dX6_write_20 : decode cX6_write 20 = .ok (.aload_n 0, 1) := by decide +kernel
theorem dX6_write_21 : decode cX6_write 21 = .ok (.getfield 63, 3) := by decide +kernel
theorem dX6_write_24 : decode cX6_write 24 = .ok (.bipush 56, 2) := by decide +kernel
theorem dX6_write_26 : decode cX6_write 26 = .ok (.if_icmp .ne 6, 3) := by decide +kernel
theorem dX6_write_29 : decode cX6_write 29 = .ok (.bipush (-4), 2) := by decide +kernel
theorem dX6_write_31 : decode cX6_write 31 = .ok (.ireturn, 1) := by decide +kernel
theorem dX6_write_32 : decode cX6_write 32 = .ok (.aload_n 0, 1) := by decide +kernel
theorem dX6_write_33 : decode cX6_write 33 = .ok (.getfield 7, 3) := by decide +kernel
theorem dX6_write_36 : decode cX6_write 36 = .ok (.aload_n 0, 1) := by decide +kernel
theorem dX6_write_37 : decode cX6_write 37 = .ok (.getfield 63, 3) := by decide +kernel
theorem dX6_write_40 : decode cX6_write 40 = .ok (.iload_n 1, 1) := by decide +kernel
theorem dX6_write_41 : decode cX6_write 41 = .ok (.iastore, 1) := by decide +kernel
theorem dX6_write_42 : decode cX6_write 42 = .ok (.aload_n 0, 1) := by decide +kernel
theorem dX6_write_43 : decode cX6_write 43 = .ok (.dup, 1) := by decide +kernel
theorem dX6_write_44 : decode cX6_write 44 = .ok (.getfield 63, 3) := by decide +kernel
theorem dX6_write_47 : decode cX6_write 47 = .ok (.iconst 1, 1) := by decide +kernel
theorem dX6_write_48 : decode cX6_write 48 = .ok (.iadd, 1) := by decide +kernel
theorem dX6_write_49 : decode cX6_write 49 = .ok (.putfield 63, 3) := by decide +kernel
theorem dX6_write_52 : decode cX6_write 52 = .ok (.aload_n 0, 1) := by decide +kernel
theorem dX6_write_53 : decode cX6_write 53 = .ok (.getfield 63, 3) := by decide +kernel
theorem dX6_write_56 : decode cX6_write 56 = .ok (.ireturn, 1) := by decide +kernel
theorem dX6_wipe_0 : decode cX6_wipe 0 = .ok (.aload_n 0, 1) := by decide +kernel
theorem dX6_wipe_1 : decode cX6_wipe 1 = .ok (.iconst 0, 1) := by decide +kernel
theorem dX6_wipe_2 : decode cX6_wipe 2 = .ok (.putfield 45, 3) := by decide +kernel
theorem dX6_wipe_5 : decode cX6_wipe 5 = .ok (.aload_n 0, 1) := by decide +kernel
theorem dX6_wipe_6 : decode cX6_wipe 6 = .ok (.getfield 63, 3) := by decide +kernel
theorem dX6_wipe_9 : decode cX6_wipe 9 = .ok (.istore_n 1, 1) := by decide +kernel
theorem dX6_wipe_10 : decode cX6_wipe 10 = .ok (.aload_n 0, 1) := by decide +kernel
theorem dX6_wipe_11 : decode cX6_wipe 11 = .ok (.iconst 0, 1) := by decide +kernel
theorem dX6_wipe_12 : decode cX6_wipe 12 = .ok (.putfield 63, 3) := by decide +kernel
theorem dX6_wipe_15 : decode cX6_wipe 15 = .ok (.iload_n 1, 1) := by decide +kernel
theorem dX6_wipe_16 : decode cX6_wipe 16 = .ok (.ireturn, 1) := by decide +kernel
theorem dX6_figureAt_0 : decode cX6_figureAt 0 = .ok (.iload_n 1, 1) := by decide +kernel
theorem dX6_figureAt_1 : decode cX6_figureAt 1 = .ok (.aload_n 0, 1) := by decide +kernel
theorem dX6_figureAt_2 : decode cX6_figureAt 2 = .ok (.getfield 63, 3) := by decide +kernel
theorem dX6_figureAt_5 : decode cX6_figureAt 5 = .ok (.if_icmp .ge 15, 3) := by decide +kernel
theorem dX6_figureAt_8 : decode cX6_figureAt 8 = .ok (.aload_n 0, 1) := by decide +kernel
theorem dX6_figureAt_9 : decode cX6_figureAt 9 = .ok (.getfield 7, 3) := by decide +kernel
theorem dX6_figureAt_12 : decode cX6_figureAt 12 = .ok (.iload_n 1, 1) := by decide +kernel
theorem dX6_figureAt_13 : decode cX6_figureAt 13 = .ok (.iaload, 1) := by decide +kernel
theorem dX6_figureAt_14 : decode cX6_figureAt 14 = .ok (.bipush 48, 2) := by decide +kernel
theorem dX6_figureAt_16 : decode cX6_figureAt 16 = .ok (.isub, 1) := by decide +kernel
theorem dX6_figureAt_17 : decode cX6_figureAt 17 = .ok (.goto 5, 3) := by decide +kernel
theorem dX6_figureAt_20 : decode cX6_figureAt 20 = .ok (.bipush (-9), 2) := by decide +kernel
theorem dX6_figureAt_22 : decode cX6_figureAt 22 = .ok (.istore_n 2, 1) := by decide +kernel
theorem dX6_figureAt_23 : decode cX6_figureAt 23 = .ok (.iload_n 2, 1) := by decide +kernel
theorem dX6_figureAt_24 : decode cX6_figureAt 24 = .ok (.i2l, 1) := by decide +kernel
theorem dX6_figureAt_25 : decode cX6_figureAt 25 = .ok (.lconst 0, 1) := by decide +kernel
theorem dX6_figureAt_26 : decode cX6_figureAt 26 = .ok (.ldc2_w 66, 3) := by decide +kernel
theorem dX6_figureAt_29 : decode cX6_figureAt 29 = .ok (.invokestatic 57, 3) := by decide +kernel
theorem dX6_figureAt_32 : decode cX6_figureAt 32 = .ok (.ifCond .eq 7, 3) := by decide +kernel
theorem dX6_figureAt_35 : decode cX6_figureAt 35 = .ok (.iload_n 2, 1) := by decide +kernel
theorem dX6_figureAt_36 : decode cX6_figureAt 36 = .ok (.goto 5, 3) := by decide +kernel
theorem dX6_figureAt_39 : decode cX6_figureAt 39 = .ok (.bipush (-9), 2) := by decide +kernel
theorem dX6_figureAt_41 : decode cX6_figureAt 41 = .ok (.ireturn, 1) := by decide +kernel
theorem dX6_readLeaf_0 : decode cX6_readLeaf 0 = .ok (.aload_n 0, 1) := by decide +kernel
theorem dX6_readLeaf_1 : decode cX6_readLeaf 1 = .ok (.getfield 63, 3) := by decide +kernel
theorem dX6_readLeaf_4 : decode cX6_readLeaf 4 = .ok (.ifCond .eq 14, 3) := by decide +kernel
theorem dX6_readLeaf_7 : decode cX6_readLeaf 7 = .ok (.aload_n 0, 1) := by decide +kernel
theorem dX6_readLeaf_8 : decode cX6_readLeaf 8 = .ok (.getfield 7, 3) := by decide +kernel
theorem dX6_readLeaf_11 : decode cX6_readLeaf 11 = .ok (.iconst 0, 1) := by decide +kernel
theorem dX6_readLeaf_12 : decode cX6_readLeaf 12 = .ok (.iaload, 1) := by decide +kernel
theorem dX6_readLeaf_13 : decode cX6_readLeaf 13 = .ok (.bipush 76, 2) := by decide +kernel
theorem dX6_readLeaf_15 : decode cX6_readLeaf 15 = .ok (.if_icmp .eq 5, 3) := by decide +kernel
theorem dX6_readLeaf_18 : decode cX6_readLeaf 18 = .ok (.iconst 0, 1) := by decide +kernel
theorem dX6_readLeaf_19 : decode cX6_readLeaf 19 = .ok (.ireturn, 1) := by decide +kernel
theorem dX6_readLeaf_20 : decode cX6_readLeaf 20 = .ok (.iconst 0, 1) := by decide +kernel
theorem dX6_readLeaf_21 : decode cX6_readLeaf 21 = .ok (.istore_n 1, 1) := by decide +kernel
theorem dX6_readLeaf_22 : decode cX6_readLeaf 22 = .ok (.iload_n 1, 1) := by decide +kernel
theorem dX6_readLeaf_23 : decode cX6_readLeaf 23 = .ok (.iconst 2, 1) := by decide +kernel
theorem dX6_readLeaf_24 : decode cX6_readLeaf 24 = .ok (.if_icmp .ge 43, 3) := by decide +kernel
theorem dX6_readLeaf_27 : decode cX6_readLeaf 27 = .ok (.aload_n 0, 1) := by decide +kernel
theorem dX6_readLeaf_28 : decode cX6_readLeaf 28 = .ok (.getfield 13, 3) := by decide +kernel
theorem dX6_readLeaf_31 : decode cX6_readLeaf 31 = .ok (.iload_n 1, 1) := by decide +kernel
theorem dX6_readLeaf_32 : decode cX6_readLeaf 32 = .ok (.aload_n 0, 1) := by decide +kernel
theorem dX6_readLeaf_33 : decode cX6_readLeaf 33 = .ok (.iload_n 1, 1) := by decide +kernel
theorem dX6_readLeaf_34 : decode cX6_readLeaf 34 = .ok (.iconst 1, 1) := by decide +kernel
theorem dX6_readLeaf_35 : decode cX6_readLeaf 35 = .ok (.iadd, 1) := by decide +kernel
theorem dX6_readLeaf_36 : decode cX6_readLeaf 36 = .ok (.invokevirtual 68, 3) := by decide +kernel
theorem dX6_readLeaf_39 : decode cX6_readLeaf 39 = .ok (.iastore, 1) := by decide +kernel
theorem dX6_readLeaf_40 : decode cX6_readLeaf 40 = .ok (.aload_n 0, 1) := by decide +kernel
theorem dX6_readLeaf_41 : decode cX6_readLeaf 41 = .ok (.getfield 13, 3) := by decide +kernel
theorem dX6_readLeaf_44 : decode cX6_readLeaf 44 = .ok (.iload_n 1, 1) := by decide +kernel
theorem dX6_readLeaf_45 : decode cX6_readLeaf 45 = .ok (.iaload, 1) := by decide +kernel
theorem dX6_readLeaf_46 : decode cX6_readLeaf 46 = .ok (.i2l, 1) := by decide +kernel
theorem dX6_readLeaf_47 : decode cX6_readLeaf 47 = .ok (.lconst 1, 1) := by decide +kernel
theorem dX6_readLeaf_48 : decode cX6_readLeaf 48 = .ok (.ldc2_w 72, 3) := by decide +kernel
theorem dX6_readLeaf_51 : decode cX6_readLeaf 51 = .ok (.invokestatic 57, 3) := by decide +kernel
theorem dX6_readLeaf_54 : decode cX6_readLeaf 54 = .ok (.ifCond .ne 7, 3) := by decide +kernel
theorem dX6_readLeaf_57 : decode cX6_readLeaf 57 = .ok (.iload_n 1, 1) := by decide +kernel
theorem dX6_readLeaf_58 : decode cX6_readLeaf 58 = .ok (.iconst 1, 1) := by decide +kernel
theorem dX6_readLeaf_59 : decode cX6_readLeaf 59 = .ok (.iadd, 1) := by decide +kernel
theorem dX6_readLeaf_60 : decode cX6_readLeaf 60 = .ok (.ireturn, 1) := by decide +kernel
theorem dX6_readLeaf_61 : decode cX6_readLeaf 61 = .ok (.iinc 1 1, 3) := by decide +kernel
theorem dX6_readLeaf_64 : decode cX6_readLeaf 64 = .ok (.goto (-42), 3) := by decide +kernel
theorem dX6_readLeaf_67 : decode cX6_readLeaf 67 = .ok (.aload_n 0, 1) := by decide +kernel
theorem dX6_readLeaf_68 : decode cX6_readLeaf 68 = .ok (.getfield 13, 3) := by decide +kernel
theorem dX6_readLeaf_71 : decode cX6_readLeaf 71 = .ok (.invokestatic 53, 3) := by decide +kernel
theorem dX6_readLeaf_74 : decode cX6_readLeaf 74 = .ok (.istore_n 1, 1) := by decide +kernel
theorem dX6_readLeaf_75 : decode cX6_readLeaf 75 = .ok (.iconst 0, 1) := by decide +kernel
theorem dX6_readLeaf_76 : decode cX6_readLeaf 76 = .ok (.istore_n 2, 1) := by decide +kernel
theorem dX6_readLeaf_77 : decode cX6_readLeaf 77 = .ok (.iload_n 2, 1) := by decide +kernel
theorem dX6_readLeaf_78 : decode cX6_readLeaf 78 = .ok (.iconst 2, 1) := by decide +kernel
theorem dX6_readLeaf_79 : decode cX6_readLeaf 79 = .ok (.iload_n 1, 1) := by decide +kernel
theorem dX6_readLeaf_80 : decode cX6_readLeaf 80 = .ok (.imul, 1) := by decide +kernel
theorem dX6_readLeaf_81 : decode cX6_readLeaf 81 = .ok (.if_icmp .gt 103, 3) := by decide +kernel
theorem dX6_readLeaf_84 : decode cX6_readLeaf 84 = .ok (.iconst 3, 1) := by decide +kernel
theorem dX6_readLeaf_85 : decode cX6_readLeaf 85 = .ok (.iload_n 2, 1) := by decide +kernel
theorem dX6_readLeaf_86 : decode cX6_readLeaf 86 = .ok (.iadd, 1) := by decide +kernel
theorem dX6_readLeaf_87 : decode cX6_readLeaf 87 = .ok (.istore_n 3, 1) := by decide +kernel
theorem dX6_readLeaf_88 : decode cX6_readLeaf 88 = .ok (.iload_n 2, 1) := by decide +kernel
theorem dX6_readLeaf_89 : decode cX6_readLeaf 89 = .ok (.iload_n 1, 1) := by decide +kernel
theorem dX6_readLeaf_90 : decode cX6_readLeaf 90 = .ok (.if_icmp .ne 30, 3) := by decide +kernel
theorem dX6_readLeaf_93 : decode cX6_readLeaf 93 = .ok (.iload_n 3, 1) := by decide +kernel
theorem dX6_readLeaf_94 : decode cX6_readLeaf 94 = .ok (.aload_n 0, 1) := by decide +kernel
theorem dX6_readLeaf_95 : decode cX6_readLeaf 95 = .ok (.getfield 63, 3) := by decide +kernel
theorem dX6_readLeaf_98 : decode cX6_readLeaf 98 = .ok (.if_icmp .ge 18, 3) := by decide +kernel
theorem dX6_readLeaf_101 : decode cX6_readLeaf 101 = .ok (.aload_n 0, 1) := by decide +kernel
theorem dX6_readLeaf_102 : decode cX6_readLeaf 102 = .ok (.getfield 7, 3) := by decide +kernel
theorem dX6_readLeaf_105 : decode cX6_readLeaf 105 = .ok (.iload_n 3, 1) := by decide +kernel
theorem dX6_readLeaf_106 : decode cX6_readLeaf 106 = .ok (.iaload, 1) := by decide +kernel
theorem dX6_readLeaf_107 : decode cX6_readLeaf 107 = .ok (.bipush 66, 2) := by decide +kernel
theorem dX6_readLeaf_109 : decode cX6_readLeaf 109 = .ok (.if_icmp .ne 7, 3) := by decide +kernel
theorem dX6_readLeaf_112 : decode cX6_readLeaf 112 = .ok (.iconst 1, 1) := by decide +kernel
theorem dX6_readLeaf_113 : decode cX6_readLeaf 113 = .ok (.goto 22, 3) := by decide +kernel
theorem dX6_readLeaf_116 : decode cX6_readLeaf 116 = .ok (.iconst 0, 1) := by decide +kernel
theorem dX6_readLeaf_117 : decode cX6_readLeaf 117 = .ok (.goto 18, 3) := by decide +kernel
theorem dX6_readLeaf_120 : decode cX6_readLeaf 120 = .ok (.aload_n 0, 1) := by decide +kernel
theorem dX6_readLeaf_121 : decode cX6_readLeaf 121 = .ok (.iload_n 3, 1) := by decide +kernel
theorem dX6_readLeaf_122 : decode cX6_readLeaf 122 = .ok (.invokevirtual 68, 3) := by decide +kernel
theorem dX6_readLeaf_125 : decode cX6_readLeaf 125 = .ok (.bipush (-9), 2) := by decide +kernel
theorem dX6_readLeaf_127 : decode cX6_readLeaf 127 = .ok (.if_icmp .eq 7, 3) := by decide +kernel
theorem dX6_readLeaf_130 : decode cX6_readLeaf 130 = .ok (.iconst 1, 1) := by decide +kernel
theorem dX6_readLeaf_131 : decode cX6_readLeaf 131 = .ok (.goto 4, 3) := by decide +kernel
theorem dX6_readLeaf_134 : decode cX6_readLeaf 134 = .ok (.iconst 0, 1) := by decide +kernel
theorem dX6_readLeaf_135 : decode cX6_readLeaf 135 = .ok (.istore 4, 2) := by decide +kernel
theorem dX6_readLeaf_137 : decode cX6_readLeaf 137 = .ok (.iload 4, 2) := by decide +kernel
theorem dX6_readLeaf_139 : decode cX6_readLeaf 139 = .ok (.ifCond .ne 5, 3) := by decide +kernel
theorem dX6_readLeaf_142 : decode cX6_readLeaf 142 = .ok (.iload_n 3, 1) := by decide +kernel
theorem dX6_readLeaf_143 : decode cX6_readLeaf 143 = .ok (.ireturn, 1) := by decide +kernel
theorem dX6_readLeaf_144 : decode cX6_readLeaf 144 = .ok (.iload_n 2, 1) := by decide +kernel
theorem dX6_readLeaf_145 : decode cX6_readLeaf 145 = .ok (.iload_n 1, 1) := by decide +kernel
theorem dX6_readLeaf_146 : decode cX6_readLeaf 146 = .ok (.if_icmp .eq 32, 3) := by decide +kernel
theorem dX6_readLeaf_149 : decode cX6_readLeaf 149 = .ok (.aload_n 0, 1) := by decide +kernel
theorem dX6_readLeaf_150 : decode cX6_readLeaf 150 = .ok (.getfield 13, 3) := by decide +kernel
theorem dX6_readLeaf_153 : decode cX6_readLeaf 153 = .ok (.iload_n 2, 1) := by decide +kernel
theorem dX6_readLeaf_154 : decode cX6_readLeaf 154 = .ok (.iload_n 1, 1) := by decide +kernel
theorem dX6_readLeaf_155 : decode cX6_readLeaf 155 = .ok (.if_icmp .ge 9, 3) := by decide +kernel
theorem dX6_readLeaf_158 : decode cX6_readLeaf 158 = .ok (.iconst 2, 1) := by decide +kernel
theorem dX6_readLeaf_159 : decode cX6_readLeaf 159 = .ok (.iload_n 2, 1) := by decide +kernel
theorem dX6_readLeaf_160 : decode cX6_readLeaf 160 = .ok (.iadd, 1) := by decide +kernel
theorem dX6_readLeaf_161 : decode cX6_readLeaf 161 = .ok (.goto 11, 3) := by decide +kernel
theorem dX6_readLeaf_164 : decode cX6_readLeaf 164 = .ok (.bipush 27, 2) := by decide +kernel
theorem dX6_readLeaf_166 : decode cX6_readLeaf 166 = .ok (.iload_n 2, 1) := by decide +kernel
theorem dX6_readLeaf_167 : decode cX6_readLeaf 167 = .ok (.iadd, 1) := by decide +kernel
theorem dX6_readLeaf_168 : decode cX6_readLeaf 168 = .ok (.iload_n 1, 1) := by decide +kernel
theorem dX6_readLeaf_169 : decode cX6_readLeaf 169 = .ok (.isub, 1) := by decide +kernel
theorem dX6_readLeaf_170 : decode cX6_readLeaf 170 = .ok (.iconst 1, 1) := by decide +kernel
theorem dX6_readLeaf_171 : decode cX6_readLeaf 171 = .ok (.isub, 1) := by decide +kernel
theorem dX6_readLeaf_172 : decode cX6_readLeaf 172 = .ok (.aload_n 0, 1) := by decide +kernel
theorem dX6_readLeaf_173 : decode cX6_readLeaf 173 = .ok (.iload_n 3, 1) := by decide +kernel
theorem dX6_readLeaf_174 : decode cX6_readLeaf 174 = .ok (.invokevirtual 68, 3) := by decide +kernel
theorem dX6_readLeaf_177 : decode cX6_readLeaf 177 = .ok (.iastore, 1) := by decide +kernel
theorem dX6_readLeaf_178 : decode cX6_readLeaf 178 = .ok (.iinc 2 1, 3) := by decide +kernel
theorem dX6_readLeaf_181 : decode cX6_readLeaf 181 = .ok (.goto (-104), 3) := by decide +kernel
theorem dX6_readLeaf_184 : decode cX6_readLeaf 184 = .ok (.aload_n 0, 1) := by decide +kernel
theorem dX6_readLeaf_185 : decode cX6_readLeaf 185 = .ok (.getfield 63, 3) := by decide +kernel
theorem dX6_readLeaf_188 : decode cX6_readLeaf 188 = .ok (.iconst 4, 1) := by decide +kernel
theorem dX6_readLeaf_189 : decode cX6_readLeaf 189 = .ok (.iconst 2, 1) := by decide +kernel
theorem dX6_readLeaf_190 : decode cX6_readLeaf 190 = .ok (.iload_n 1, 1) := by decide +kernel
theorem dX6_readLeaf_191 : decode cX6_readLeaf 191 = .ok (.imul, 1) := by decide +kernel
theorem dX6_readLeaf_192 : decode cX6_readLeaf 192 = .ok (.iadd, 1) := by decide +kernel
theorem dX6_readLeaf_193 : decode cX6_readLeaf 193 = .ok (.if_icmp .ne 8, 3) := by decide +kernel
theorem dX6_readLeaf_196 : decode cX6_readLeaf 196 = .ok (.bipush (-9), 2) := by decide +kernel
theorem dX6_readLeaf_198 : decode cX6_readLeaf 198 = .ok (.goto 8, 3) := by decide +kernel
theorem dX6_readLeaf_201 : decode cX6_readLeaf 201 = .ok (.iconst 4, 1) := by decide +kernel
theorem dX6_readLeaf_202 : decode cX6_readLeaf 202 = .ok (.iconst 2, 1) := by decide +kernel
theorem dX6_readLeaf_203 : decode cX6_readLeaf 203 = .ok (.iload_n 1, 1) := by decide +kernel
theorem dX6_readLeaf_204 : decode cX6_readLeaf 204 = .ok (.imul, 1) := by decide +kernel
theorem dX6_readLeaf_205 : decode cX6_readLeaf 205 = .ok (.iadd, 1) := by decide +kernel
theorem dX6_readLeaf_206 : decode cX6_readLeaf 206 = .ok (.ireturn, 1) := by decide +kernel
theorem dX6_fault_0 : decode cX6_fault 0 = .ok (.aload_n 0, 1) := by decide +kernel
theorem dX6_fault_1 : decode cX6_fault 1 = .ok (.iconst 0, 1) := by decide +kernel
theorem dX6_fault_2 : decode cX6_fault 2 = .ok (.putfield 45, 3) := by decide +kernel
theorem dX6_fault_5 : decode cX6_fault 5 = .ok (.aload_n 0, 1) := by decide +kernel
theorem dX6_fault_6 : decode cX6_fault 6 = .ok (.invokevirtual 74, 3) := by decide +kernel
theorem dX6_fault_9 : decode cX6_fault 9 = .ok (.ireturn, 1) := by decide +kernel
theorem dX6_leaf_0 : decode cX6_leaf 0 = .ok (.aload_n 0, 1) := by decide +kernel
theorem dX6_leaf_1 : decode cX6_leaf 1 = .ok (.iconst 0, 1) := by decide +kernel
theorem dX6_leaf_2 : decode cX6_leaf 2 = .ok (.putfield 45, 3) := by decide +kernel
theorem dX6_leaf_5 : decode cX6_leaf 5 = .ok (.aload_n 0, 1) := by decide +kernel
theorem dX6_leaf_6 : decode cX6_leaf 6 = .ok (.invokevirtual 74, 3) := by decide +kernel
theorem dX6_leaf_9 : decode cX6_leaf 9 = .ok (.bipush (-9), 2) := by decide +kernel
theorem dX6_leaf_11 : decode cX6_leaf 11 = .ok (.if_icmp .eq 6, 3) := by decide +kernel
theorem dX6_leaf_14 : decode cX6_leaf 14 = .ok (.bipush (-3), 2) := by decide +kernel
theorem dX6_leaf_16 : decode cX6_leaf 16 = .ok (.ireturn, 1) := by decide +kernel
theorem dX6_leaf_17 : decode cX6_leaf 17 = .ok (.iconst 0, 1) := by decide +kernel
theorem dX6_leaf_18 : decode cX6_leaf 18 = .ok (.istore_n 1, 1) := by decide +kernel
theorem dX6_leaf_19 : decode cX6_leaf 19 = .ok (.iload_n 1, 1) := by decide +kernel
theorem dX6_leaf_20 : decode cX6_leaf 20 = .ok (.bipush 52, 2) := by decide +kernel
theorem dX6_leaf_22 : decode cX6_leaf 22 = .ok (.if_icmp .ge 21, 3) := by decide +kernel
theorem dX6_leaf_25 : decode cX6_leaf 25 = .ok (.aload_n 0, 1) := by decide +kernel
theorem dX6_leaf_26 : decode cX6_leaf 26 = .ok (.getfield 16, 3) := by decide +kernel
theorem dX6_leaf_29 : decode cX6_leaf 29 = .ok (.iload_n 1, 1) := by decide +kernel
theorem dX6_leaf_30 : decode cX6_leaf 30 = .ok (.aload_n 0, 1) := by decide +kernel
theorem dX6_leaf_31 : decode cX6_leaf 31 = .ok (.getfield 13, 3) := by decide +kernel
theorem dX6_leaf_34 : decode cX6_leaf 34 = .ok (.iload_n 1, 1) := by decide +kernel
theorem dX6_leaf_35 : decode cX6_leaf 35 = .ok (.iaload, 1) := by decide +kernel
theorem dX6_leaf_36 : decode cX6_leaf 36 = .ok (.iastore, 1) := by decide +kernel
theorem dX6_leaf_37 : decode cX6_leaf 37 = .ok (.iinc 1 1, 3) := by decide +kernel
theorem dX6_leaf_40 : decode cX6_leaf 40 = .ok (.goto (-21), 3) := by decide +kernel
theorem dX6_leaf_43 : decode cX6_leaf 43 = .ok (.aload_n 0, 1) := by decide +kernel
theorem dX6_leaf_44 : decode cX6_leaf 44 = .ok (.getfield 16, 3) := by decide +kernel
theorem dX6_leaf_47 : decode cX6_leaf 47 = .ok (.invokestatic 41, 3) := by decide +kernel
theorem dX6_leaf_50 : decode cX6_leaf 50 = .ok (.aload_n 0, 1) := by decide +kernel
theorem dX6_leaf_51 : decode cX6_leaf 51 = .ok (.iconst 0, 1) := by decide +kernel
theorem dX6_leaf_52 : decode cX6_leaf 52 = .ok (.putfield 78, 3) := by decide +kernel
theorem dX6_leaf_55 : decode cX6_leaf 55 = .ok (.aload_n 0, 1) := by decide +kernel
theorem dX6_leaf_56 : decode cX6_leaf 56 = .ok (.getfield 28, 3) := by decide +kernel
theorem dX6_leaf_59 : decode cX6_leaf 59 = .ok (.iconst 0, 1) := by decide +kernel
theorem dX6_leaf_60 : decode cX6_leaf 60 = .ok (.iconst 0, 1) := by decide +kernel
theorem dX6_leaf_61 : decode cX6_leaf 61 = .ok (.bastore, 1) := by decide +kernel
theorem dX6_leaf_62 : decode cX6_leaf 62 = .ok (.aload_n 0, 1) := by decide +kernel
theorem dX6_leaf_63 : decode cX6_leaf 63 = .ok (.getfield 28, 3) := by decide +kernel
theorem dX6_leaf_66 : decode cX6_leaf 66 = .ok (.iconst 1, 1) := by decide +kernel
theorem dX6_leaf_67 : decode cX6_leaf 67 = .ok (.iconst 0, 1) := by decide +kernel
theorem dX6_leaf_68 : decode cX6_leaf 68 = .ok (.bastore, 1) := by decide +kernel
theorem dX6_leaf_69 : decode cX6_leaf 69 = .ok (.aload_n 0, 1) := by decide +kernel
theorem dX6_leaf_70 : decode cX6_leaf 70 = .ok (.getfield 16, 3) := by decide +kernel
theorem dX6_leaf_73 : decode cX6_leaf 73 = .ok (.invokestatic 53, 3) := by decide +kernel
theorem dX6_leaf_76 : decode cX6_leaf 76 = .ok (.ireturn, 1) := by decide +kernel
theorem dX6_far_0 : decode cX6_far 0 = .ok (.iload_n 0, 1) := by decide +kernel
theorem dX6_far_1 : decode cX6_far 1 = .ok (.iload_n 1, 1) := by decide +kernel
theorem dX6_far_2 : decode cX6_far 2 = .ok (.if_icmp .ge 9, 3) := by decide +kernel
theorem dX6_far_5 : decode cX6_far 5 = .ok (.iload_n 1, 1) := by decide +kernel
theorem dX6_far_6 : decode cX6_far 6 = .ok (.iload_n 0, 1) := by decide +kernel
theorem dX6_far_7 : decode cX6_far 7 = .ok (.isub, 1) := by decide +kernel
theorem dX6_far_8 : decode cX6_far 8 = .ok (.goto 6, 3) := by decide +kernel
theorem dX6_far_11 : decode cX6_far 11 = .ok (.iload_n 0, 1) := by decide +kernel
theorem dX6_far_12 : decode cX6_far 12 = .ok (.iload_n 1, 1) := by decide +kernel
theorem dX6_far_13 : decode cX6_far 13 = .ok (.isub, 1) := by decide +kernel
theorem dX6_far_14 : decode cX6_far 14 = .ok (.ireturn, 1) := by decide +kernel
theorem dX6_layWindow_0 : decode cX6_layWindow 0 = .ok (.aload_n 0, 1) := by decide +kernel
theorem dX6_layWindow_1 : decode cX6_layWindow 1 = .ok (.iconst 0, 1) := by decide +kernel
theorem dX6_layWindow_2 : decode cX6_layWindow 2 = .ok (.putfield 81, 3) := by decide +kernel
theorem dX6_layWindow_5 : decode cX6_layWindow 5 = .ok (.aload_n 0, 1) := by decide +kernel
theorem dX6_layWindow_6 : decode cX6_layWindow 6 = .ok (.iconst 0, 1) := by decide +kernel
theorem dX6_layWindow_7 : decode cX6_layWindow 7 = .ok (.putfield 84, 3) := by decide +kernel
theorem dX6_layWindow_10 : decode cX6_layWindow 10 = .ok (.aload_n 0, 1) := by decide +kernel
theorem dX6_layWindow_11 : decode cX6_layWindow 11 = .ok (.iconst 0, 1) := by decide +kernel
theorem dX6_layWindow_12 : decode cX6_layWindow 12 = .ok (.putfield 87, 3) := by decide +kernel
theorem dX6_layWindow_15 : decode cX6_layWindow 15 = .ok (.iconst 0, 1) := by decide +kernel
theorem dX6_layWindow_16 : decode cX6_layWindow 16 = .ok (.istore 4, 2) := by decide +kernel
theorem dX6_layWindow_18 : decode cX6_layWindow 18 = .ok (.iload 4, 2) := by decide +kernel
theorem dX6_layWindow_20 : decode cX6_layWindow 20 = .ok (.aload_n 1, 1) := by decide +kernel
theorem dX6_layWindow_21 : decode cX6_layWindow 21 = .ok (.invokestatic 53, 3) := by decide +kernel
theorem dX6_layWindow_24 : decode cX6_layWindow 24 = .ok (.if_icmp .ge 88, 3) := by decide +kernel
theorem dX6_layWindow_27 : decode cX6_layWindow 27 = .ok (.iload_n 2, 1) := by decide +kernel
theorem dX6_layWindow_28 : decode cX6_layWindow 28 = .ok (.aload_n 1, 1) := by decide +kernel
theorem dX6_layWindow_29 : decode cX6_layWindow 29 = .ok (.iconst 0, 1) := by decide +kernel
theorem dX6_layWindow_30 : decode cX6_layWindow 30 = .ok (.iaload, 1) := by decide +kernel
theorem dX6_layWindow_31 : decode cX6_layWindow 31 = .ok (.irem, 1) := by decide +kernel
theorem dX6_layWindow_32 : decode cX6_layWindow 32 = .ok (.iload 4, 2) := by decide +kernel
theorem dX6_layWindow_34 : decode cX6_layWindow 34 = .ok (.aload_n 1, 1) := by decide +kernel
theorem dX6_layWindow_35 : decode cX6_layWindow 35 = .ok (.iconst 0, 1) := by decide +kernel
theorem dX6_layWindow_36 : decode cX6_layWindow 36 = .ok (.iaload, 1) := by decide +kernel
theorem dX6_layWindow_37 : decode cX6_layWindow 37 = .ok (.irem, 1) := by decide +kernel
theorem dX6_layWindow_38 : decode cX6_layWindow 38 = .ok (.invokestatic 90, 3) := by decide +kernel
theorem dX6_layWindow_41 : decode cX6_layWindow 41 = .ok (.iload_n 3, 1) := by decide +kernel
theorem dX6_layWindow_42 : decode cX6_layWindow 42 = .ok (.if_icmp .gt 64, 3) := by decide +kernel
theorem dX6_layWindow_45 : decode cX6_layWindow 45 = .ok (.iload_n 2, 1) := by decide +kernel
theorem dX6_layWindow_46 : decode cX6_layWindow 46 = .ok (.aload_n 1, 1) := by decide +kernel
theorem dX6_layWindow_47 : decode cX6_layWindow 47 = .ok (.iconst 0, 1) := by decide +kernel
theorem dX6_layWindow_48 : decode cX6_layWindow 48 = .ok (.iaload, 1) := by decide +kernel
theorem dX6_layWindow_49 : decode cX6_layWindow 49 = .ok (.idiv, 1) := by decide +kernel
theorem dX6_layWindow_50 : decode cX6_layWindow 50 = .ok (.iload 4, 2) := by decide +kernel
theorem dX6_layWindow_52 : decode cX6_layWindow 52 = .ok (.aload_n 1, 1) := by decide +kernel
theorem dX6_layWindow_53 : decode cX6_layWindow 53 = .ok (.iconst 0, 1) := by decide +kernel
theorem dX6_layWindow_54 : decode cX6_layWindow 54 = .ok (.iaload, 1) := by decide +kernel
theorem dX6_layWindow_55 : decode cX6_layWindow 55 = .ok (.idiv, 1) := by decide +kernel
theorem dX6_layWindow_56 : decode cX6_layWindow 56 = .ok (.invokestatic 90, 3) := by decide +kernel
theorem dX6_layWindow_59 : decode cX6_layWindow 59 = .ok (.iload_n 3, 1) := by decide +kernel
theorem dX6_layWindow_60 : decode cX6_layWindow 60 = .ok (.if_icmp .gt 46, 3) := by decide +kernel
theorem dX6_layWindow_63 : decode cX6_layWindow 63 = .ok (.aload_n 1, 1) := by decide +kernel
theorem dX6_layWindow_64 : decode cX6_layWindow 64 = .ok (.iconst 2, 1) := by decide +kernel
theorem dX6_layWindow_65 : decode cX6_layWindow 65 = .ok (.iload 4, 2) := by decide +kernel
theorem dX6_layWindow_67 : decode cX6_layWindow 67 = .ok (.iadd, 1) := by decide +kernel
theorem dX6_layWindow_68 : decode cX6_layWindow 68 = .ok (.iaload, 1) := by decide +kernel
theorem dX6_layWindow_69 : decode cX6_layWindow 69 = .ok (.istore 5, 2) := by decide +kernel
theorem dX6_layWindow_71 : decode cX6_layWindow 71 = .ok (.aload_n 0, 1) := by decide +kernel
theorem dX6_layWindow_72 : decode cX6_layWindow 72 = .ok (.dup, 1) := by decide +kernel
theorem dX6_layWindow_73 : decode cX6_layWindow 73 = .ok (.getfield 81, 3) := by decide +kernel
theorem dX6_layWindow_76 : decode cX6_layWindow 76 = .ok (.iconst 1, 1) := by decide +kernel
theorem dX6_layWindow_77 : decode cX6_layWindow 77 = .ok (.iadd, 1) := by decide +kernel
theorem dX6_layWindow_78 : decode cX6_layWindow 78 = .ok (.putfield 81, 3) := by decide +kernel
theorem dX6_layWindow_81 : decode cX6_layWindow 81 = .ok (.aload_n 0, 1) := by decide +kernel
theorem dX6_layWindow_82 : decode cX6_layWindow 82 = .ok (.dup, 1) := by decide +kernel
theorem dX6_layWindow_83 : decode cX6_layWindow 83 = .ok (.getfield 84, 3) := by decide +kernel
theorem dX6_layWindow_86 : decode cX6_layWindow 86 = .ok (.iload 5, 2) := by decide +kernel
theorem dX6_layWindow_88 : decode cX6_layWindow 88 = .ok (.iadd, 1) := by decide +kernel
theorem dX6_layWindow_89 : decode cX6_layWindow 89 = .ok (.putfield 84, 3) := by decide +kernel
theorem dX6_layWindow_92 : decode cX6_layWindow 92 = .ok (.aload_n 0, 1) := by decide +kernel
theorem dX6_layWindow_93 : decode cX6_layWindow 93 = .ok (.dup, 1) := by decide +kernel
theorem dX6_layWindow_94 : decode cX6_layWindow 94 = .ok (.getfield 87, 3) := by decide +kernel
theorem dX6_layWindow_97 : decode cX6_layWindow 97 = .ok (.iload 5, 2) := by decide +kernel
theorem dX6_layWindow_99 : decode cX6_layWindow 99 = .ok (.iload 5, 2) := by decide +kernel
theorem dX6_layWindow_101 : decode cX6_layWindow 101 = .ok (.imul, 1) := by decide +kernel
theorem dX6_layWindow_102 : decode cX6_layWindow 102 = .ok (.iadd, 1) := by decide +kernel
theorem dX6_layWindow_103 : decode cX6_layWindow 103 = .ok (.putfield 87, 3) := by decide +kernel
theorem dX6_layWindow_106 : decode cX6_layWindow 106 = .ok (.iinc 4 1, 3) := by decide +kernel
theorem dX6_layWindow_109 : decode cX6_layWindow 109 = .ok (.goto (-91), 3) := by decide +kernel
theorem dX6_layWindow_112 : decode cX6_layWindow 112 = .ok (.return_, 1) := by decide +kernel
theorem dX6_isDark_0 : decode cX6_isDark 0 = .ok (.aload_n 0, 1) := by decide +kernel
theorem dX6_isDark_1 : decode cX6_isDark 1 = .ok (.getfield 81, 3) := by decide +kernel
theorem dX6_isDark_4 : decode cX6_isDark 4 = .ok (.istore_n 3, 1) := by decide +kernel
theorem dX6_isDark_5 : decode cX6_isDark 5 = .ok (.aload_n 1, 1) := by decide +kernel
theorem dX6_isDark_6 : decode cX6_isDark 6 = .ok (.bipush 54, 2) := by decide +kernel
theorem dX6_isDark_8 : decode cX6_isDark 8 = .ok (.iaload, 1) := by decide +kernel
theorem dX6_isDark_9 : decode cX6_isDark 9 = .ok (.istore 4, 2) := by decide +kernel
theorem dX6_isDark_11 : decode cX6_isDark 11 = .ok (.aload_n 1, 1) := by decide +kernel
theorem dX6_isDark_12 : decode cX6_isDark 12 = .ok (.bipush 52, 2) := by decide +kernel
theorem dX6_isDark_14 : decode cX6_isDark 14 = .ok (.iaload, 1) := by decide +kernel
theorem dX6_isDark_15 : decode cX6_isDark 15 = .ok (.ifCond .ne 24, 3) := by decide +kernel
theorem dX6_isDark_18 : decode cX6_isDark 18 = .ok (.iload_n 3, 1) := by decide +kernel
theorem dX6_isDark_19 : decode cX6_isDark 19 = .ok (.iload_n 2, 1) := by decide +kernel
theorem dX6_isDark_20 : decode cX6_isDark 20 = .ok (.imul, 1) := by decide +kernel
theorem dX6_isDark_21 : decode cX6_isDark 21 = .ok (.iload_n 3, 1) := by decide +kernel
theorem dX6_isDark_22 : decode cX6_isDark 22 = .ok (.iload 4, 2) := by decide +kernel
theorem dX6_isDark_24 : decode cX6_isDark 24 = .ok (.imul, 1) := by decide +kernel
theorem dX6_isDark_25 : decode cX6_isDark 25 = .ok (.iadd, 1) := by decide +kernel
theorem dX6_isDark_26 : decode cX6_isDark 26 = .ok (.aload_n 0, 1) := by decide +kernel
theorem dX6_isDark_27 : decode cX6_isDark 27 = .ok (.getfield 84, 3) := by decide +kernel
theorem dX6_isDark_30 : decode cX6_isDark 30 = .ok (.if_icmp .ge 7, 3) := by decide +kernel
theorem dX6_isDark_33 : decode cX6_isDark 33 = .ok (.iconst 1, 1) := by decide +kernel
theorem dX6_isDark_34 : decode cX6_isDark 34 = .ok (.goto 4, 3) := by decide +kernel
theorem dX6_isDark_37 : decode cX6_isDark 37 = .ok (.iconst 0, 1) := by decide +kernel
theorem dX6_isDark_38 : decode cX6_isDark 38 = .ok (.ireturn, 1) := by decide +kernel
theorem dX6_isDark_39 : decode cX6_isDark 39 = .ok (.aload_n 1, 1) := by decide +kernel
theorem dX6_isDark_40 : decode cX6_isDark 40 = .ok (.bipush 52, 2) := by decide +kernel
theorem dX6_isDark_42 : decode cX6_isDark 42 = .ok (.iaload, 1) := by decide +kernel
theorem dX6_isDark_43 : decode cX6_isDark 43 = .ok (.iconst 2, 1) := by decide +kernel
theorem dX6_isDark_44 : decode cX6_isDark 44 = .ok (.if_icmp .ne 15, 3) := by decide +kernel
theorem dX6_isDark_47 : decode cX6_isDark 47 = .ok (.iload_n 2, 1) := by decide +kernel
theorem dX6_isDark_48 : decode cX6_isDark 48 = .ok (.iload 4, 2) := by decide +kernel
theorem dX6_isDark_50 : decode cX6_isDark 50 = .ok (.if_icmp .ge 7, 3) := by decide +kernel
theorem dX6_isDark_53 : decode cX6_isDark 53 = .ok (.iconst 1, 1) := by decide +kernel
theorem dX6_isDark_54 : decode cX6_isDark 54 = .ok (.goto 4, 3) := by decide +kernel
theorem dX6_isDark_57 : decode cX6_isDark 57 = .ok (.iconst 0, 1) := by decide +kernel
theorem dX6_isDark_58 : decode cX6_isDark 58 = .ok (.ireturn, 1) := by decide +kernel
theorem dX6_isDark_59 : decode cX6_isDark 59 = .ok (.aload_n 0, 1) := by decide +kernel
theorem dX6_isDark_60 : decode cX6_isDark 60 = .ok (.getfield 84, 3) := by decide +kernel
theorem dX6_isDark_63 : decode cX6_isDark 63 = .ok (.iload_n 3, 1) := by decide +kernel
theorem dX6_isDark_64 : decode cX6_isDark 64 = .ok (.iload_n 2, 1) := by decide +kernel
theorem dX6_isDark_65 : decode cX6_isDark 65 = .ok (.imul, 1) := by decide +kernel
theorem dX6_isDark_66 : decode cX6_isDark 66 = .ok (.isub, 1) := by decide +kernel
theorem dX6_isDark_67 : decode cX6_isDark 67 = .ok (.istore 5, 2) := by decide +kernel
theorem dX6_isDark_69 : decode cX6_isDark 69 = .ok (.iload 5, 2) := by decide +kernel
theorem dX6_isDark_71 : decode cX6_isDark 71 = .ok (.ifCond .le 40, 3) := by decide +kernel
theorem dX6_isDark_74 : decode cX6_isDark 74 = .ok (.bipush 100, 2) := by decide +kernel
theorem dX6_isDark_76 : decode cX6_isDark 76 = .ok (.iload 5, 2) := by decide +kernel
theorem dX6_isDark_78 : decode cX6_isDark 78 = .ok (.imul, 1) := by decide +kernel
theorem dX6_isDark_79 : decode cX6_isDark 79 = .ok (.iload 5, 2) := by decide +kernel
theorem dX6_isDark_81 : decode cX6_isDark 81 = .ok (.imul, 1) := by decide +kernel
theorem dX6_isDark_82 : decode cX6_isDark 82 = .ok (.iload 4, 2) := by decide +kernel
theorem dX6_isDark_84 : decode cX6_isDark 84 = .ok (.iload 4, 2) := by decide +kernel
theorem dX6_isDark_86 : decode cX6_isDark 86 = .ok (.imul, 1) := by decide +kernel
theorem dX6_isDark_87 : decode cX6_isDark 87 = .ok (.iload_n 3, 1) := by decide +kernel
theorem dX6_isDark_88 : decode cX6_isDark 88 = .ok (.aload_n 0, 1) := by decide +kernel
theorem dX6_isDark_89 : decode cX6_isDark 89 = .ok (.getfield 87, 3) := by decide +kernel
theorem dX6_isDark_92 : decode cX6_isDark 92 = .ok (.imul, 1) := by decide +kernel
theorem dX6_isDark_93 : decode cX6_isDark 93 = .ok (.aload_n 0, 1) := by decide +kernel
theorem dX6_isDark_94 : decode cX6_isDark 94 = .ok (.getfield 84, 3) := by decide +kernel
theorem dX6_isDark_97 : decode cX6_isDark 97 = .ok (.aload_n 0, 1) := by decide +kernel
theorem dX6_isDark_98 : decode cX6_isDark 98 = .ok (.getfield 84, 3) := by decide +kernel
theorem dX6_isDark_101 : decode cX6_isDark 101 = .ok (.imul, 1) := by decide +kernel
theorem dX6_isDark_102 : decode cX6_isDark 102 = .ok (.isub, 1) := by decide +kernel
theorem dX6_isDark_103 : decode cX6_isDark 103 = .ok (.imul, 1) := by decide +kernel
theorem dX6_isDark_104 : decode cX6_isDark 104 = .ok (.if_icmp .le 7, 3) := by decide +kernel
theorem dX6_isDark_107 : decode cX6_isDark 107 = .ok (.iconst 1, 1) := by decide +kernel
theorem dX6_isDark_108 : decode cX6_isDark 108 = .ok (.goto 4, 3) := by decide +kernel
theorem dX6_isDark_111 : decode cX6_isDark 111 = .ok (.iconst 0, 1) := by decide +kernel
theorem dX6_isDark_112 : decode cX6_isDark 112 = .ok (.ireturn, 1) := by decide +kernel
theorem dX6_underOf_0 : decode cX6_underOf 0 = .ok (.aload_n 0, 1) := by decide +kernel
theorem dX6_underOf_1 : decode cX6_underOf 1 = .ok (.iconst 0, 1) := by decide +kernel
theorem dX6_underOf_2 : decode cX6_underOf 2 = .ok (.iaload, 1) := by decide +kernel
theorem dX6_underOf_3 : decode cX6_underOf 3 = .ok (.iconst 1, 1) := by decide +kernel
theorem dX6_underOf_4 : decode cX6_underOf 4 = .ok (.isub, 1) := by decide +kernel
theorem dX6_underOf_5 : decode cX6_underOf 5 = .ok (.iload_n 1, 1) := by decide +kernel
theorem dX6_underOf_6 : decode cX6_underOf 6 = .ok (.aload_n 0, 1) := by decide +kernel
theorem dX6_underOf_7 : decode cX6_underOf 7 = .ok (.iconst 0, 1) := by decide +kernel
theorem dX6_underOf_8 : decode cX6_underOf 8 = .ok (.iaload, 1) := by decide +kernel
theorem dX6_underOf_9 : decode cX6_underOf 9 = .ok (.irem, 1) := by decide +kernel
theorem dX6_underOf_10 : decode cX6_underOf 10 = .ok (.isub, 1) := by decide +kernel
theorem dX6_underOf_11 : decode cX6_underOf 11 = .ok (.iload_n 2, 1) := by decide +kernel
theorem dX6_underOf_12 : decode cX6_underOf 12 = .ok (.iadd, 1) := by decide +kernel
theorem dX6_underOf_13 : decode cX6_underOf 13 = .ok (.istore 4, 2) := by decide +kernel
theorem dX6_underOf_15 : decode cX6_underOf 15 = .ok (.iload_n 1, 1) := by decide +kernel
theorem dX6_underOf_16 : decode cX6_underOf 16 = .ok (.aload_n 0, 1) := by decide +kernel
theorem dX6_underOf_17 : decode cX6_underOf 17 = .ok (.iconst 0, 1) := by decide +kernel
theorem dX6_underOf_18 : decode cX6_underOf 18 = .ok (.iaload, 1) := by decide +kernel
theorem dX6_underOf_19 : decode cX6_underOf 19 = .ok (.idiv, 1) := by decide +kernel
theorem dX6_underOf_20 : decode cX6_underOf 20 = .ok (.iload_n 3, 1) := by decide +kernel
theorem dX6_underOf_21 : decode cX6_underOf 21 = .ok (.iadd, 1) := by decide +kernel
theorem dX6_underOf_22 : decode cX6_underOf 22 = .ok (.istore 5, 2) := by decide +kernel
theorem dX6_underOf_24 : decode cX6_underOf 24 = .ok (.iload 4, 2) := by decide +kernel
theorem dX6_underOf_26 : decode cX6_underOf 26 = .ok (.i2l, 1) := by decide +kernel
theorem dX6_underOf_27 : decode cX6_underOf 27 = .ok (.lconst 0, 1) := by decide +kernel
theorem dX6_underOf_28 : decode cX6_underOf 28 = .ok (.aload_n 0, 1) := by decide +kernel
theorem dX6_underOf_29 : decode cX6_underOf 29 = .ok (.iconst 0, 1) := by decide +kernel
theorem dX6_underOf_30 : decode cX6_underOf 30 = .ok (.iaload, 1) := by decide +kernel
theorem dX6_underOf_31 : decode cX6_underOf 31 = .ok (.iconst 1, 1) := by decide +kernel
theorem dX6_underOf_32 : decode cX6_underOf 32 = .ok (.isub, 1) := by decide +kernel
theorem dX6_underOf_33 : decode cX6_underOf 33 = .ok (.i2l, 1) := by decide +kernel
theorem dX6_underOf_34 : decode cX6_underOf 34 = .ok (.invokestatic 57, 3) := by decide +kernel
theorem dX6_underOf_37 : decode cX6_underOf 37 = .ok (.ifCond .eq 31, 3) := by decide +kernel
theorem dX6_underOf_40 : decode cX6_underOf 40 = .ok (.iload 5, 2) := by decide +kernel
theorem dX6_underOf_42 : decode cX6_underOf 42 = .ok (.i2l, 1) := by decide +kernel
theorem dX6_underOf_43 : decode cX6_underOf 43 = .ok (.lconst 0, 1) := by decide +kernel
theorem dX6_underOf_44 : decode cX6_underOf 44 = .ok (.aload_n 0, 1) := by decide +kernel
theorem dX6_underOf_45 : decode cX6_underOf 45 = .ok (.iconst 1, 1) := by decide +kernel
theorem dX6_underOf_46 : decode cX6_underOf 46 = .ok (.iaload, 1) := by decide +kernel
theorem dX6_underOf_47 : decode cX6_underOf 47 = .ok (.iconst 1, 1) := by decide +kernel
theorem dX6_underOf_48 : decode cX6_underOf 48 = .ok (.isub, 1) := by decide +kernel
theorem dX6_underOf_49 : decode cX6_underOf 49 = .ok (.i2l, 1) := by decide +kernel
theorem dX6_underOf_50 : decode cX6_underOf 50 = .ok (.invokestatic 57, 3) := by decide +kernel
theorem dX6_underOf_53 : decode cX6_underOf 53 = .ok (.ifCond .eq 15, 3) := by decide +kernel
theorem dX6_underOf_56 : decode cX6_underOf 56 = .ok (.aload_n 0, 1) := by decide +kernel
theorem dX6_underOf_57 : decode cX6_underOf 57 = .ok (.iconst 0, 1) := by decide +kernel
theorem dX6_underOf_58 : decode cX6_underOf 58 = .ok (.iaload, 1) := by decide +kernel
theorem dX6_underOf_59 : decode cX6_underOf 59 = .ok (.iload 5, 2) := by decide +kernel
theorem dX6_underOf_61 : decode cX6_underOf 61 = .ok (.imul, 1) := by decide +kernel
theorem dX6_underOf_62 : decode cX6_underOf 62 = .ok (.iload 4, 2) := by decide +kernel
theorem dX6_underOf_64 : decode cX6_underOf 64 = .ok (.iadd, 1) := by decide +kernel
theorem dX6_underOf_65 : decode cX6_underOf 65 = .ok (.goto 5, 3) := by decide +kernel
theorem dX6_underOf_68 : decode cX6_underOf 68 = .ok (.bipush (-9), 2) := by decide +kernel
theorem dX6_underOf_70 : decode cX6_underOf 70 = .ok (.ireturn, 1) := by decide +kernel
theorem dX6_markOf_0 : decode cX6_markOf 0 = .ok (.aload_n 0, 1) := by decide +kernel
theorem dX6_markOf_1 : decode cX6_markOf 1 = .ok (.aload_n 1, 1) := by decide +kernel
theorem dX6_markOf_2 : decode cX6_markOf 2 = .ok (.iload_n 2, 1) := by decide +kernel
theorem dX6_markOf_3 : decode cX6_markOf 3 = .ok (.aload_n 1, 1) := by decide +kernel
theorem dX6_markOf_4 : decode cX6_markOf 4 = .ok (.bipush 53, 2) := by decide +kernel
theorem dX6_markOf_6 : decode cX6_markOf 6 = .ok (.iaload, 1) := by decide +kernel
theorem dX6_markOf_7 : decode cX6_markOf 7 = .ok (.invokevirtual 93, 3) := by decide +kernel
theorem dX6_markOf_10 : decode cX6_markOf 10 = .ok (.aload_n 1, 1) := by decide +kernel
theorem dX6_markOf_11 : decode cX6_markOf 11 = .ok (.iconst 2, 1) := by decide +kernel
theorem dX6_markOf_12 : decode cX6_markOf 12 = .ok (.iload_n 2, 1) := by decide +kernel
theorem dX6_markOf_13 : decode cX6_markOf 13 = .ok (.iadd, 1) := by decide +kernel
theorem dX6_markOf_14 : decode cX6_markOf 14 = .ok (.iaload, 1) := by decide +kernel
theorem dX6_markOf_15 : decode cX6_markOf 15 = .ok (.istore_n 3, 1) := by decide +kernel
theorem dX6_markOf_16 : decode cX6_markOf 16 = .ok (.aload_n 0, 1) := by decide +kernel
theorem dX6_markOf_17 : decode cX6_markOf 17 = .ok (.aload_n 1, 1) := by decide +kernel
theorem dX6_markOf_18 : decode cX6_markOf 18 = .ok (.iload_n 3, 1) := by decide +kernel
theorem dX6_markOf_19 : decode cX6_markOf 19 = .ok (.invokevirtual 97, 3) := by decide +kernel
theorem dX6_markOf_22 : decode cX6_markOf 22 = .ok (.ifCond .ne 5, 3) := by decide +kernel
theorem dX6_markOf_25 : decode cX6_markOf 25 = .ok (.iconst 0, 1) := by decide +kernel
theorem dX6_markOf_26 : decode cX6_markOf 26 = .ok (.ireturn, 1) := by decide +kernel
theorem dX6_markOf_27 : decode cX6_markOf 27 = .ok (.aload_n 1, 1) := by decide +kernel
theorem dX6_markOf_28 : decode cX6_markOf 28 = .ok (.iload_n 2, 1) := by decide +kernel
theorem dX6_markOf_29 : decode cX6_markOf 29 = .ok (.aload_n 1, 1) := by decide +kernel
theorem dX6_markOf_30 : decode cX6_markOf 30 = .ok (.bipush 65, 2) := by decide +kernel
theorem dX6_markOf_32 : decode cX6_markOf 32 = .ok (.iaload, 1) := by decide +kernel
theorem dX6_markOf_33 : decode cX6_markOf 33 = .ok (.aload_n 1, 1) := by decide +kernel
theorem dX6_markOf_34 : decode cX6_markOf 34 = .ok (.bipush 66, 2) := by decide +kernel
theorem dX6_markOf_36 : decode cX6_markOf 36 = .ok (.iaload, 1) := by decide +kernel
theorem dX6_markOf_37 : decode cX6_markOf 37 = .ok (.invokestatic 101, 3) := by decide +kernel
theorem dX6_markOf_40 : decode cX6_markOf 40 = .ok (.istore 4, 2) := by decide +kernel
theorem dX6_markOf_42 : decode cX6_markOf 42 = .ok (.iload 4, 2) := by decide +kernel
theorem dX6_markOf_44 : decode cX6_markOf 44 = .ok (.bipush (-9), 2) := by decide +kernel
theorem dX6_markOf_46 : decode cX6_markOf 46 = .ok (.if_icmp .ne 5, 3) := by decide +kernel
theorem dX6_markOf_49 : decode cX6_markOf 49 = .ok (.iconst 2, 1) := by decide +kernel
theorem dX6_markOf_50 : decode cX6_markOf 50 = .ok (.ireturn, 1) := by decide +kernel
theorem dX6_markOf_51 : decode cX6_markOf 51 = .ok (.iload_n 3, 1) := by decide +kernel
theorem dX6_markOf_52 : decode cX6_markOf 52 = .ok (.aload_n 1, 1) := by decide +kernel
theorem dX6_markOf_53 : decode cX6_markOf 53 = .ok (.bipush 55, 2) := by decide +kernel
theorem dX6_markOf_55 : decode cX6_markOf 55 = .ok (.aload_n 1, 1) := by decide +kernel
theorem dX6_markOf_56 : decode cX6_markOf 56 = .ok (.bipush 27, 2) := by decide +kernel
theorem dX6_markOf_58 : decode cX6_markOf 58 = .ok (.iload 4, 2) := by decide +kernel
theorem dX6_markOf_60 : decode cX6_markOf 60 = .ok (.iadd, 1) := by decide +kernel
theorem dX6_markOf_61 : decode cX6_markOf 61 = .ok (.iaload, 1) := by decide +kernel
theorem dX6_markOf_62 : decode cX6_markOf 62 = .ok (.iadd, 1) := by decide +kernel
theorem dX6_markOf_63 : decode cX6_markOf 63 = .ok (.iaload, 1) := by decide +kernel
theorem dX6_markOf_64 : decode cX6_markOf 64 = .ok (.iadd, 1) := by decide +kernel
theorem dX6_markOf_65 : decode cX6_markOf 65 = .ok (.istore 5, 2) := by decide +kernel
theorem dX6_markOf_67 : decode cX6_markOf 67 = .ok (.aload_n 0, 1) := by decide +kernel
theorem dX6_markOf_68 : decode cX6_markOf 68 = .ok (.aload_n 1, 1) := by decide +kernel
theorem dX6_markOf_69 : decode cX6_markOf 69 = .ok (.iload 5, 2) := by decide +kernel
theorem dX6_markOf_71 : decode cX6_markOf 71 = .ok (.bipush 9, 2) := by decide +kernel
theorem dX6_markOf_73 : decode cX6_markOf 73 = .ok (.if_icmp .le 8, 3) := by decide +kernel
theorem dX6_markOf_76 : decode cX6_markOf 76 = .ok (.bipush 9, 2) := by decide +kernel
theorem dX6_markOf_78 : decode cX6_markOf 78 = .ok (.goto 5, 3) := by decide +kernel
theorem dX6_markOf_81 : decode cX6_markOf 81 = .ok (.iload 5, 2) := by decide +kernel
theorem dX6_markOf_83 : decode cX6_markOf 83 = .ok (.invokevirtual 97, 3) := by decide +kernel
theorem dX6_markOf_86 : decode cX6_markOf 86 = .ok (.ifCond .eq 7, 3) := by decide +kernel
theorem dX6_markOf_89 : decode cX6_markOf 89 = .ok (.iconst 2, 1) := by decide +kernel
theorem dX6_markOf_90 : decode cX6_markOf 90 = .ok (.goto 4, 3) := by decide +kernel
theorem dX6_markOf_93 : decode cX6_markOf 93 = .ok (.iconst 1, 1) := by decide +kernel
theorem dX6_markOf_94 : decode cX6_markOf 94 = .ok (.ireturn, 1) := by decide +kernel
theorem dX6_inkOf_0 : decode cX6_inkOf 0 = .ok (.iconst 0, 1) := by decide +kernel
theorem dX6_inkOf_1 : decode cX6_inkOf 1 = .ok (.istore_n 2, 1) := by decide +kernel
theorem dX6_inkOf_2 : decode cX6_inkOf 2 = .ok (.iconst 0, 1) := by decide +kernel
theorem dX6_inkOf_3 : decode cX6_inkOf 3 = .ok (.istore_n 3, 1) := by decide +kernel
theorem dX6_inkOf_4 : decode cX6_inkOf 4 = .ok (.iload_n 3, 1) := by decide +kernel
theorem dX6_inkOf_5 : decode cX6_inkOf 5 = .ok (.aload_n 1, 1) := by decide +kernel
theorem dX6_inkOf_6 : decode cX6_inkOf 6 = .ok (.invokestatic 53, 3) := by decide +kernel
theorem dX6_inkOf_9 : decode cX6_inkOf 9 = .ok (.if_icmp .ge 29, 3) := by decide +kernel
theorem dX6_inkOf_12 : decode cX6_inkOf 12 = .ok (.iload_n 2, 1) := by decide +kernel
theorem dX6_inkOf_13 : decode cX6_inkOf 13 = .ok (.aload_n 0, 1) := by decide +kernel
theorem dX6_inkOf_14 : decode cX6_inkOf 14 = .ok (.aload_n 1, 1) := by decide +kernel
theorem dX6_inkOf_15 : decode cX6_inkOf 15 = .ok (.iload_n 3, 1) := by decide +kernel
theorem dX6_inkOf_16 : decode cX6_inkOf 16 = .ok (.invokevirtual 105, 3) := by decide +kernel
theorem dX6_inkOf_19 : decode cX6_inkOf 19 = .ok (.iconst 2, 1) := by decide +kernel
theorem dX6_inkOf_20 : decode cX6_inkOf 20 = .ok (.if_icmp .ne 9, 3) := by decide +kernel
theorem dX6_inkOf_23 : decode cX6_inkOf 23 = .ok (.iconst 1, 1) := by decide +kernel
theorem dX6_inkOf_24 : decode cX6_inkOf 24 = .ok (.iload_n 3, 1) := by decide +kernel
theorem dX6_inkOf_25 : decode cX6_inkOf 25 = .ok (.ishl, 1) := by decide +kernel
theorem dX6_inkOf_26 : decode cX6_inkOf 26 = .ok (.goto 4, 3) := by decide +kernel
theorem dX6_inkOf_29 : decode cX6_inkOf 29 = .ok (.iconst 0, 1) := by decide +kernel
theorem dX6_inkOf_30 : decode cX6_inkOf 30 = .ok (.ior, 1) := by decide +kernel
theorem dX6_inkOf_31 : decode cX6_inkOf 31 = .ok (.istore_n 2, 1) := by decide +kernel
theorem dX6_inkOf_32 : decode cX6_inkOf 32 = .ok (.iinc 3 1, 3) := by decide +kernel
theorem dX6_inkOf_35 : decode cX6_inkOf 35 = .ok (.goto (-31), 3) := by decide +kernel
theorem dX6_inkOf_38 : decode cX6_inkOf 38 = .ok (.iload_n 2, 1) := by decide +kernel
theorem dX6_inkOf_39 : decode cX6_inkOf 39 = .ok (.ireturn, 1) := by decide +kernel
theorem dX6_marks_0 : decode cX6_marks 0 = .ok (.iconst 0, 1) := by decide +kernel
theorem dX6_marks_1 : decode cX6_marks 1 = .ok (.istore_n 3, 1) := by decide +kernel
theorem dX6_marks_2 : decode cX6_marks 2 = .ok (.iconst 0, 1) := by decide +kernel
theorem dX6_marks_3 : decode cX6_marks 3 = .ok (.istore 4, 2) := by decide +kernel
theorem dX6_marks_5 : decode cX6_marks 5 = .ok (.iload 4, 2) := by decide +kernel
theorem dX6_marks_7 : decode cX6_marks 7 = .ok (.aload_n 0, 1) := by decide +kernel
theorem dX6_marks_8 : decode cX6_marks 8 = .ok (.getfield 16, 3) := by decide +kernel
theorem dX6_marks_11 : decode cX6_marks 11 = .ok (.invokestatic 53, 3) := by decide +kernel
theorem dX6_marks_14 : decode cX6_marks 14 = .ok (.if_icmp .ge 38, 3) := by decide +kernel
theorem dX6_marks_17 : decode cX6_marks 17 = .ok (.iload_n 3, 1) := by decide +kernel
theorem dX6_marks_18 : decode cX6_marks 18 = .ok (.aload_n 0, 1) := by decide +kernel
theorem dX6_marks_19 : decode cX6_marks 19 = .ok (.aload_n 0, 1) := by decide +kernel
theorem dX6_marks_20 : decode cX6_marks 20 = .ok (.getfield 16, 3) := by decide +kernel
theorem dX6_marks_23 : decode cX6_marks 23 = .ok (.iload 4, 2) := by decide +kernel
theorem dX6_marks_25 : decode cX6_marks 25 = .ok (.invokevirtual 105, 3) := by decide +kernel
theorem dX6_marks_28 : decode cX6_marks 28 = .ok (.i2l, 1) := by decide +kernel
theorem dX6_marks_29 : decode cX6_marks 29 = .ok (.iload_n 1, 1) := by decide +kernel
theorem dX6_marks_30 : decode cX6_marks 30 = .ok (.i2l, 1) := by decide +kernel
theorem dX6_marks_31 : decode cX6_marks 31 = .ok (.iload_n 2, 1) := by decide +kernel
theorem dX6_marks_32 : decode cX6_marks 32 = .ok (.i2l, 1) := by decide +kernel
theorem dX6_marks_33 : decode cX6_marks 33 = .ok (.invokestatic 57, 3) := by decide +kernel
theorem dX6_marks_36 : decode cX6_marks 36 = .ok (.ifCond .eq 7, 3) := by decide +kernel
theorem dX6_marks_39 : decode cX6_marks 39 = .ok (.iconst 1, 1) := by decide +kernel
theorem dX6_marks_40 : decode cX6_marks 40 = .ok (.goto 4, 3) := by decide +kernel
theorem dX6_marks_43 : decode cX6_marks 43 = .ok (.iconst 0, 1) := by decide +kernel
theorem dX6_marks_44 : decode cX6_marks 44 = .ok (.iadd, 1) := by decide +kernel
theorem dX6_marks_45 : decode cX6_marks 45 = .ok (.istore_n 3, 1) := by decide +kernel
theorem dX6_marks_46 : decode cX6_marks 46 = .ok (.iinc 4 1, 3) := by decide +kernel
theorem dX6_marks_49 : decode cX6_marks 49 = .ok (.goto (-44), 3) := by decide +kernel
theorem dX6_marks_52 : decode cX6_marks 52 = .ok (.iload_n 3, 1) := by decide +kernel
theorem dX6_marks_53 : decode cX6_marks 53 = .ok (.ireturn, 1) := by decide +kernel
theorem dX6_greys_0 : decode cX6_greys 0 = .ok (.iconst 0, 1) := by decide +kernel
theorem dX6_greys_1 : decode cX6_greys 1 = .ok (.istore_n 1, 1) := by decide +kernel
theorem dX6_greys_2 : decode cX6_greys 2 = .ok (.iconst 0, 1) := by decide +kernel
theorem dX6_greys_3 : decode cX6_greys 3 = .ok (.istore_n 2, 1) := by decide +kernel
theorem dX6_greys_4 : decode cX6_greys 4 = .ok (.iload_n 2, 1) := by decide +kernel
theorem dX6_greys_5 : decode cX6_greys 5 = .ok (.aload_n 0, 1) := by decide +kernel
theorem dX6_greys_6 : decode cX6_greys 6 = .ok (.invokestatic 53, 3) := by decide +kernel
theorem dX6_greys_9 : decode cX6_greys 9 = .ok (.if_icmp .ge 17, 3) := by decide +kernel
theorem dX6_greys_12 : decode cX6_greys 12 = .ok (.iload_n 1, 1) := by decide +kernel
theorem dX6_greys_13 : decode cX6_greys 13 = .ok (.aload_n 0, 1) := by decide +kernel
theorem dX6_greys_14 : decode cX6_greys 14 = .ok (.iconst 2, 1) := by decide +kernel
theorem dX6_greys_15 : decode cX6_greys 15 = .ok (.iload_n 2, 1) := by decide +kernel
theorem dX6_greys_16 : decode cX6_greys 16 = .ok (.iadd, 1) := by decide +kernel
theorem dX6_greys_17 : decode cX6_greys 17 = .ok (.iaload, 1) := by decide +kernel
theorem dX6_greys_18 : decode cX6_greys 18 = .ok (.iadd, 1) := by decide +kernel
theorem dX6_greys_19 : decode cX6_greys 19 = .ok (.istore_n 1, 1) := by decide +kernel
theorem dX6_greys_20 : decode cX6_greys 20 = .ok (.iinc 2 1, 3) := by decide +kernel
theorem dX6_greys_23 : decode cX6_greys 23 = .ok (.goto (-19), 3) := by decide +kernel
theorem dX6_greys_26 : decode cX6_greys 26 = .ok (.iload_n 1, 1) := by decide +kernel
theorem dX6_greys_27 : decode cX6_greys 27 = .ok (.ireturn, 1) := by decide +kernel
theorem dX6_about_0 : decode cX6_about 0 = .ok (.aload_n 0, 1) := by decide +kernel
theorem dX6_about_1 : decode cX6_about 1 = .ok (.iconst 0, 1) := by decide +kernel
theorem dX6_about_2 : decode cX6_about 2 = .ok (.putfield 45, 3) := by decide +kernel
theorem dX6_about_5 : decode cX6_about 5 = .ok (.iload_n 1, 1) := by decide +kernel
theorem dX6_about_6 : decode cX6_about 6 = .ok (.tableswitch 153 0 12 #[66, 66, 73, 80, 87, 94, 102, 102, 102, 115, 138, 143, 148], 66) := by decide +kernel
theorem dX6_about_72 : decode cX6_about 72 = .ok (.aload_n 0, 1) := by decide +kernel
theorem dX6_about_73 : decode cX6_about 73 = .ok (.getfield 16, 3) := by decide +kernel
theorem dX6_about_76 : decode cX6_about 76 = .ok (.iload_n 1, 1) := by decide +kernel
theorem dX6_about_77 : decode cX6_about 77 = .ok (.iaload, 1) := by decide +kernel
theorem dX6_about_78 : decode cX6_about 78 = .ok (.ireturn, 1) := by decide +kernel
theorem dX6_about_79 : decode cX6_about 79 = .ok (.aload_n 0, 1) := by decide +kernel
theorem dX6_about_80 : decode cX6_about 80 = .ok (.iconst 1, 1) := by decide +kernel
theorem dX6_about_81 : decode cX6_about 81 = .ok (.iconst 2, 1) := by decide +kernel
theorem dX6_about_82 : decode cX6_about 82 = .ok (.invokevirtual 109, 3) := by decide +kernel
theorem dX6_about_85 : decode cX6_about 85 = .ok (.ireturn, 1) := by decide +kernel
theorem dX6_about_86 : decode cX6_about 86 = .ok (.aload_n 0, 1) := by decide +kernel
theorem dX6_about_87 : decode cX6_about 87 = .ok (.iconst 1, 1) := by decide +kernel
theorem dX6_about_88 : decode cX6_about 88 = .ok (.iconst 1, 1) := by decide +kernel
theorem dX6_about_89 : decode cX6_about 89 = .ok (.invokevirtual 109, 3) := by decide +kernel
theorem dX6_about_92 : decode cX6_about 92 = .ok (.ireturn, 1) := by decide +kernel
theorem dX6_about_93 : decode cX6_about 93 = .ok (.aload_n 0, 1) := by decide +kernel
theorem dX6_about_94 : decode cX6_about 94 = .ok (.iconst 2, 1) := by decide +kernel
theorem dX6_about_95 : decode cX6_about 95 = .ok (.iconst 2, 1) := by decide +kernel
theorem dX6_about_96 : decode cX6_about 96 = .ok (.invokevirtual 109, 3) := by decide +kernel
theorem dX6_about_99 : decode cX6_about 99 = .ok (.ireturn, 1) := by decide +kernel
theorem dX6_about_100 : decode cX6_about 100 = .ok (.aload_n 0, 1) := by decide +kernel
theorem dX6_about_101 : decode cX6_about 101 = .ok (.getfield 16, 3) := by decide +kernel
theorem dX6_about_104 : decode cX6_about 104 = .ok (.invokestatic 112, 3) := by decide +kernel
theorem dX6_about_107 : decode cX6_about 107 = .ok (.ireturn, 1) := by decide +kernel
theorem dX6_about_108 : decode cX6_about 108 = .ok (.aload_n 0, 1) := by decide +kernel
theorem dX6_about_109 : decode cX6_about 109 = .ok (.getfield 16, 3) := by decide +kernel
theorem dX6_about_112 : decode cX6_about 112 = .ok (.bipush 52, 2) := by decide +kernel
theorem dX6_about_114 : decode cX6_about 114 = .ok (.iload_n 1, 1) := by decide +kernel
theorem dX6_about_115 : decode cX6_about 115 = .ok (.iadd, 1) := by decide +kernel
theorem dX6_about_116 : decode cX6_about 116 = .ok (.bipush 6, 2) := by decide +kernel
theorem dX6_about_118 : decode cX6_about 118 = .ok (.isub, 1) := by decide +kernel
theorem dX6_about_119 : decode cX6_about 119 = .ok (.iaload, 1) := by decide +kernel
theorem dX6_about_120 : decode cX6_about 120 = .ok (.ireturn, 1) := by decide +kernel
theorem dX6_about_121 : decode cX6_about 121 = .ok (.bipush 10, 2) := by decide +kernel
theorem dX6_about_123 : decode cX6_about 123 = .ok (.aload_n 0, 1) := by decide +kernel
theorem dX6_about_124 : decode cX6_about 124 = .ok (.getfield 16, 3) := by decide +kernel
theorem dX6_about_127 : decode cX6_about 127 = .ok (.bipush 65, 2) := by decide +kernel
theorem dX6_about_129 : decode cX6_about 129 = .ok (.iaload, 1) := by decide +kernel
theorem dX6_about_130 : decode cX6_about 130 = .ok (.iconst 1, 1) := by decide +kernel
theorem dX6_about_131 : decode cX6_about 131 = .ok (.iadd, 1) := by decide +kernel
theorem dX6_about_132 : decode cX6_about 132 = .ok (.imul, 1) := by decide +kernel
theorem dX6_about_133 : decode cX6_about 133 = .ok (.aload_n 0, 1) := by decide +kernel
theorem dX6_about_134 : decode cX6_about 134 = .ok (.getfield 16, 3) := by decide +kernel
theorem dX6_about_137 : decode cX6_about 137 = .ok (.bipush 66, 2) := by decide +kernel
theorem dX6_about_139 : decode cX6_about 139 = .ok (.iaload, 1) := by decide +kernel
theorem dX6_about_140 : decode cX6_about 140 = .ok (.iadd, 1) := by decide +kernel
theorem dX6_about_141 : decode cX6_about 141 = .ok (.iconst 1, 1) := by decide +kernel
theorem dX6_about_142 : decode cX6_about 142 = .ok (.iadd, 1) := by decide +kernel
theorem dX6_about_143 : decode cX6_about 143 = .ok (.ireturn, 1) := by decide +kernel
theorem dX6_about_144 : decode cX6_about 144 = .ok (.aload_n 0, 1) := by decide +kernel
theorem dX6_about_145 : decode cX6_about 145 = .ok (.getfield 78, 3) := by decide +kernel
theorem dX6_about_148 : decode cX6_about 148 = .ok (.ireturn, 1) := by decide +kernel
theorem dX6_about_149 : decode cX6_about 149 = .ok (.aload_n 0, 1) := by decide +kernel
theorem dX6_about_150 : decode cX6_about 150 = .ok (.getfield 115, 3) := by decide +kernel
theorem dX6_about_153 : decode cX6_about 153 = .ok (.ireturn, 1) := by decide +kernel
theorem dX6_about_154 : decode cX6_about 154 = .ok (.aload_n 0, 1) := by decide +kernel
theorem dX6_about_155 : decode cX6_about 155 = .ok (.getfield 63, 3) := by decide +kernel
theorem dX6_about_158 : decode cX6_about 158 = .ok (.ireturn, 1) := by decide +kernel
theorem dX6_about_159 : decode cX6_about 159 = .ok (.bipush (-2), 2) := by decide +kernel
theorem dX6_about_161 : decode cX6_about 161 = .ok (.ireturn, 1) := by decide +kernel
theorem dX6_grey_0 : decode cX6_grey 0 = .ok (.aload_n 0, 1) := by decide +kernel
theorem dX6_grey_1 : decode cX6_grey 1 = .ok (.iconst 0, 1) := by decide +kernel
theorem dX6_grey_2 : decode cX6_grey 2 = .ok (.putfield 45, 3) := by decide +kernel
theorem dX6_grey_5 : decode cX6_grey 5 = .ok (.iload_n 1, 1) := by decide +kernel
theorem dX6_grey_6 : decode cX6_grey 6 = .ok (.i2l, 1) := by decide +kernel
theorem dX6_grey_7 : decode cX6_grey 7 = .ok (.lconst 0, 1) := by decide +kernel
theorem dX6_grey_8 : decode cX6_grey 8 = .ok (.lconst 1, 1) := by decide +kernel
theorem dX6_grey_9 : decode cX6_grey 9 = .ok (.invokestatic 57, 3) := by decide +kernel
theorem dX6_grey_12 : decode cX6_grey 12 = .ok (.ifCond .eq 11, 3) := by decide +kernel
theorem dX6_grey_15 : decode cX6_grey 15 = .ok (.aload_n 0, 1) := by decide +kernel
theorem dX6_grey_16 : decode cX6_grey 16 = .ok (.iload_n 2, 1) := by decide +kernel
theorem dX6_grey_17 : decode cX6_grey 17 = .ok (.invokevirtual 118, 3) := by decide +kernel
theorem dX6_grey_20 : decode cX6_grey 20 = .ok (.ifCond .eq 7, 3) := by decide +kernel
theorem dX6_grey_23 : decode cX6_grey 23 = .ok (.iconst (-1), 1) := by decide +kernel
theorem dX6_grey_24 : decode cX6_grey 24 = .ok (.goto 20, 3) := by decide +kernel
theorem dX6_grey_27 : decode cX6_grey 27 = .ok (.aload_n 0, 1) := by decide +kernel
theorem dX6_grey_28 : decode cX6_grey 28 = .ok (.getfield 16, 3) := by decide +kernel
theorem dX6_grey_31 : decode cX6_grey 31 = .ok (.iload_n 1, 1) := by decide +kernel
theorem dX6_grey_32 : decode cX6_grey 32 = .ok (.ifCond .ne 7, 3) := by decide +kernel
theorem dX6_grey_35 : decode cX6_grey 35 = .ok (.iconst 2, 1) := by decide +kernel
theorem dX6_grey_36 : decode cX6_grey 36 = .ok (.goto 5, 3) := by decide +kernel
theorem dX6_grey_39 : decode cX6_grey 39 = .ok (.bipush 27, 2) := by decide +kernel
theorem dX6_grey_41 : decode cX6_grey 41 = .ok (.iload_n 2, 1) := by decide +kernel
theorem dX6_grey_42 : decode cX6_grey 42 = .ok (.iadd, 1) := by decide +kernel
theorem dX6_grey_43 : decode cX6_grey 43 = .ok (.iaload, 1) := by decide +kernel
theorem dX6_grey_44 : decode cX6_grey 44 = .ok (.ireturn, 1) := by decide +kernel
theorem dX6_shows_0 : decode cX6_shows 0 = .ok (.aload_n 0, 1) := by decide +kernel
theorem dX6_shows_1 : decode cX6_shows 1 = .ok (.iconst 0, 1) := by decide +kernel
theorem dX6_shows_2 : decode cX6_shows 2 = .ok (.putfield 45, 3) := by decide +kernel
theorem dX6_shows_5 : decode cX6_shows 5 = .ok (.iload_n 1, 1) := by decide +kernel
theorem dX6_shows_6 : decode cX6_shows 6 = .ok (.i2l, 1) := by decide +kernel
theorem dX6_shows_7 : decode cX6_shows 7 = .ok (.lconst 0, 1) := by decide +kernel
theorem dX6_shows_8 : decode cX6_shows 8 = .ok (.ldc2_w 66, 3) := by decide +kernel
theorem dX6_shows_11 : decode cX6_shows 11 = .ok (.invokestatic 57, 3) := by decide +kernel
theorem dX6_shows_14 : decode cX6_shows 14 = .ok (.ifCond .eq 15, 3) := by decide +kernel
theorem dX6_shows_17 : decode cX6_shows 17 = .ok (.aload_n 0, 1) := by decide +kernel
theorem dX6_shows_18 : decode cX6_shows 18 = .ok (.getfield 16, 3) := by decide +kernel
theorem dX6_shows_21 : decode cX6_shows 21 = .ok (.bipush 55, 2) := by decide +kernel
theorem dX6_shows_23 : decode cX6_shows 23 = .ok (.iload_n 1, 1) := by decide +kernel
theorem dX6_shows_24 : decode cX6_shows 24 = .ok (.iadd, 1) := by decide +kernel
theorem dX6_shows_25 : decode cX6_shows 25 = .ok (.iaload, 1) := by decide +kernel
theorem dX6_shows_26 : decode cX6_shows 26 = .ok (.goto 5, 3) := by decide +kernel
theorem dX6_shows_29 : decode cX6_shows 29 = .ok (.bipush (-2), 2) := by decide +kernel
theorem dX6_shows_31 : decode cX6_shows 31 = .ok (.ireturn, 1) := by decide +kernel
theorem dX6_window_0 : decode cX6_window 0 = .ok (.aload_n 0, 1) := by decide +kernel
theorem dX6_window_1 : decode cX6_window 1 = .ok (.iconst 0, 1) := by decide +kernel
theorem dX6_window_2 : decode cX6_window 2 = .ok (.putfield 45, 3) := by decide +kernel
theorem dX6_window_5 : decode cX6_window 5 = .ok (.aload_n 0, 1) := by decide +kernel
theorem dX6_window_6 : decode cX6_window 6 = .ok (.iload_n 1, 1) := by decide +kernel
theorem dX6_window_7 : decode cX6_window 7 = .ok (.invokevirtual 118, 3) := by decide +kernel
theorem dX6_window_10 : decode cX6_window 10 = .ok (.ifCond .eq 5, 3) := by decide +kernel
theorem dX6_window_13 : decode cX6_window 13 = .ok (.iconst (-1), 1) := by decide +kernel
theorem dX6_window_14 : decode cX6_window 14 = .ok (.ireturn, 1) := by decide +kernel
theorem dX6_window_15 : decode cX6_window 15 = .ok (.aload_n 0, 1) := by decide +kernel
theorem dX6_window_16 : decode cX6_window 16 = .ok (.aload_n 0, 1) := by decide +kernel
theorem dX6_window_17 : decode cX6_window 17 = .ok (.getfield 16, 3) := by decide +kernel
theorem dX6_window_20 : decode cX6_window 20 = .ok (.iload_n 1, 1) := by decide +kernel
theorem dX6_window_21 : decode cX6_window 21 = .ok (.aload_n 0, 1) := by decide +kernel
theorem dX6_window_22 : decode cX6_window 22 = .ok (.getfield 16, 3) := by decide +kernel
theorem dX6_window_25 : decode cX6_window 25 = .ok (.bipush 53, 2) := by decide +kernel
theorem dX6_window_27 : decode cX6_window 27 = .ok (.iaload, 1) := by decide +kernel
theorem dX6_window_28 : decode cX6_window 28 = .ok (.invokevirtual 93, 3) := by decide +kernel
theorem dX6_window_31 : decode cX6_window 31 = .ok (.iload_n 2, 1) := by decide +kernel
theorem dX6_window_32 : decode cX6_window 32 = .ok (.ifCond .ne 10, 3) := by decide +kernel
theorem dX6_window_35 : decode cX6_window 35 = .ok (.aload_n 0, 1) := by decide +kernel
theorem dX6_window_36 : decode cX6_window 36 = .ok (.getfield 81, 3) := by decide +kernel
theorem dX6_window_39 : decode cX6_window 39 = .ok (.goto 29, 3) := by decide +kernel
theorem dX6_window_42 : decode cX6_window 42 = .ok (.iload_n 2, 1) := by decide +kernel
theorem dX6_window_43 : decode cX6_window 43 = .ok (.iconst 1, 1) := by decide +kernel
theorem dX6_window_44 : decode cX6_window 44 = .ok (.if_icmp .ne 10, 3) := by decide +kernel
theorem dX6_window_47 : decode cX6_window 47 = .ok (.aload_n 0, 1) := by decide +kernel
theorem dX6_window_48 : decode cX6_window 48 = .ok (.getfield 84, 3) := by decide +kernel
theorem dX6_window_51 : decode cX6_window 51 = .ok (.goto 17, 3) := by decide +kernel
theorem dX6_window_54 : decode cX6_window 54 = .ok (.iload_n 2, 1) := by decide +kernel
theorem dX6_window_55 : decode cX6_window 55 = .ok (.iconst 2, 1) := by decide +kernel
theorem dX6_window_56 : decode cX6_window 56 = .ok (.if_icmp .ne 10, 3) := by decide +kernel
theorem dX6_window_59 : decode cX6_window 59 = .ok (.aload_n 0, 1) := by decide +kernel
theorem dX6_window_60 : decode cX6_window 60 = .ok (.getfield 87, 3) := by decide +kernel
theorem dX6_window_63 : decode cX6_window 63 = .ok (.goto 5, 3) := by decide +kernel
theorem dX6_window_66 : decode cX6_window 66 = .ok (.bipush (-2), 2) := by decide +kernel
theorem dX6_window_68 : decode cX6_window 68 = .ok (.ireturn, 1) := by decide +kernel
theorem dX6_spread_0 : decode cX6_spread 0 = .ok (.aload_n 0, 1) := by decide +kernel
theorem dX6_spread_1 : decode cX6_spread 1 = .ok (.iconst 0, 1) := by decide +kernel
theorem dX6_spread_2 : decode cX6_spread 2 = .ok (.putfield 45, 3) := by decide +kernel
theorem dX6_spread_5 : decode cX6_spread 5 = .ok (.aload_n 0, 1) := by decide +kernel
theorem dX6_spread_6 : decode cX6_spread 6 = .ok (.iload_n 1, 1) := by decide +kernel
theorem dX6_spread_7 : decode cX6_spread 7 = .ok (.invokevirtual 118, 3) := by decide +kernel
theorem dX6_spread_10 : decode cX6_spread 10 = .ok (.ifCond .eq 5, 3) := by decide +kernel
theorem dX6_spread_13 : decode cX6_spread 13 = .ok (.iconst (-1), 1) := by decide +kernel
theorem dX6_spread_14 : decode cX6_spread 14 = .ok (.ireturn, 1) := by decide +kernel
theorem dX6_spread_15 : decode cX6_spread 15 = .ok (.iload_n 2, 1) := by decide +kernel
theorem dX6_spread_16 : decode cX6_spread 16 = .ok (.i2l, 1) := by decide +kernel
theorem dX6_spread_17 : decode cX6_spread 17 = .ok (.lconst 0, 1) := by decide +kernel
theorem dX6_spread_18 : decode cX6_spread 18 = .ok (.lconst 1, 1) := by decide +kernel
theorem dX6_spread_19 : decode cX6_spread 19 = .ok (.invokestatic 57, 3) := by decide +kernel
theorem dX6_spread_22 : decode cX6_spread 22 = .ok (.ifCond .ne 6, 3) := by decide +kernel
theorem dX6_spread_25 : decode cX6_spread 25 = .ok (.bipush (-2), 2) := by decide +kernel
theorem dX6_spread_27 : decode cX6_spread 27 = .ok (.ireturn, 1) := by decide +kernel
theorem dX6_spread_28 : decode cX6_spread 28 = .ok (.aload_n 0, 1) := by decide +kernel
theorem dX6_spread_29 : decode cX6_spread 29 = .ok (.aload_n 0, 1) := by decide +kernel
theorem dX6_spread_30 : decode cX6_spread 30 = .ok (.getfield 16, 3) := by decide +kernel
theorem dX6_spread_33 : decode cX6_spread 33 = .ok (.iload_n 1, 1) := by decide +kernel
theorem dX6_spread_34 : decode cX6_spread 34 = .ok (.aload_n 0, 1) := by decide +kernel
theorem dX6_spread_35 : decode cX6_spread 35 = .ok (.getfield 16, 3) := by decide +kernel
theorem dX6_spread_38 : decode cX6_spread 38 = .ok (.bipush 53, 2) := by decide +kernel
theorem dX6_spread_40 : decode cX6_spread 40 = .ok (.iaload, 1) := by decide +kernel
theorem dX6_spread_41 : decode cX6_spread 41 = .ok (.invokevirtual 93, 3) := by decide +kernel
theorem dX6_spread_44 : decode cX6_spread 44 = .ok (.aload_n 0, 1) := by decide +kernel
theorem dX6_spread_45 : decode cX6_spread 45 = .ok (.getfield 81, 3) := by decide +kernel
theorem dX6_spread_48 : decode cX6_spread 48 = .ok (.istore 4, 2) := by decide +kernel
theorem dX6_spread_50 : decode cX6_spread 50 = .ok (.iload_n 2, 1) := by decide +kernel
theorem dX6_spread_51 : decode cX6_spread 51 = .ok (.ifCond .ne 16, 3) := by decide +kernel
theorem dX6_spread_54 : decode cX6_spread 54 = .ok (.aload_n 0, 1) := by decide +kernel
theorem dX6_spread_55 : decode cX6_spread 55 = .ok (.getfield 84, 3) := by decide +kernel
theorem dX6_spread_58 : decode cX6_spread 58 = .ok (.iload 4, 2) := by decide +kernel
theorem dX6_spread_60 : decode cX6_spread 60 = .ok (.iload_n 3, 1) := by decide +kernel
theorem dX6_spread_61 : decode cX6_spread 61 = .ok (.invokestatic 122, 3) := by decide +kernel
theorem dX6_spread_64 : decode cX6_spread 64 = .ok (.goto 29, 3) := by decide +kernel
theorem dX6_spread_67 : decode cX6_spread 67 = .ok (.iload 4, 2) := by decide +kernel
theorem dX6_spread_69 : decode cX6_spread 69 = .ok (.aload_n 0, 1) := by decide +kernel
theorem dX6_spread_70 : decode cX6_spread 70 = .ok (.getfield 87, 3) := by decide +kernel
theorem dX6_spread_73 : decode cX6_spread 73 = .ok (.imul, 1) := by decide +kernel
theorem dX6_spread_74 : decode cX6_spread 74 = .ok (.aload_n 0, 1) := by decide +kernel
theorem dX6_spread_75 : decode cX6_spread 75 = .ok (.getfield 84, 3) := by decide +kernel
theorem dX6_spread_78 : decode cX6_spread 78 = .ok (.aload_n 0, 1) := by decide +kernel
theorem dX6_spread_79 : decode cX6_spread 79 = .ok (.getfield 84, 3) := by decide +kernel
theorem dX6_spread_82 : decode cX6_spread 82 = .ok (.imul, 1) := by decide +kernel
theorem dX6_spread_83 : decode cX6_spread 83 = .ok (.isub, 1) := by decide +kernel
theorem dX6_spread_84 : decode cX6_spread 84 = .ok (.iload 4, 2) := by decide +kernel
theorem dX6_spread_86 : decode cX6_spread 86 = .ok (.iload 4, 2) := by decide +kernel
theorem dX6_spread_88 : decode cX6_spread 88 = .ok (.imul, 1) := by decide +kernel
theorem dX6_spread_89 : decode cX6_spread 89 = .ok (.iload_n 3, 1) := by decide +kernel
theorem dX6_spread_90 : decode cX6_spread 90 = .ok (.invokestatic 122, 3) := by decide +kernel
theorem dX6_spread_93 : decode cX6_spread 93 = .ok (.ireturn, 1) := by decide +kernel
theorem dX6_mark_0 : decode cX6_mark 0 = .ok (.aload_n 0, 1) := by decide +kernel
theorem dX6_mark_1 : decode cX6_mark 1 = .ok (.iconst 0, 1) := by decide +kernel
theorem dX6_mark_2 : decode cX6_mark 2 = .ok (.putfield 45, 3) := by decide +kernel
theorem dX6_mark_5 : decode cX6_mark 5 = .ok (.aload_n 0, 1) := by decide +kernel
theorem dX6_mark_6 : decode cX6_mark 6 = .ok (.iload_n 1, 1) := by decide +kernel
theorem dX6_mark_7 : decode cX6_mark 7 = .ok (.invokevirtual 118, 3) := by decide +kernel
theorem dX6_mark_10 : decode cX6_mark 10 = .ok (.ifCond .eq 7, 3) := by decide +kernel
theorem dX6_mark_13 : decode cX6_mark 13 = .ok (.iconst (-1), 1) := by decide +kernel
theorem dX6_mark_14 : decode cX6_mark 14 = .ok (.goto 12, 3) := by decide +kernel
theorem dX6_mark_17 : decode cX6_mark 17 = .ok (.aload_n 0, 1) := by decide +kernel
theorem dX6_mark_18 : decode cX6_mark 18 = .ok (.aload_n 0, 1) := by decide +kernel
theorem dX6_mark_19 : decode cX6_mark 19 = .ok (.getfield 16, 3) := by decide +kernel
theorem dX6_mark_22 : decode cX6_mark 22 = .ok (.iload_n 1, 1) := by decide +kernel
theorem dX6_mark_23 : decode cX6_mark 23 = .ok (.invokevirtual 105, 3) := by decide +kernel
theorem dX6_mark_26 : decode cX6_mark 26 = .ok (.ireturn, 1) := by decide +kernel
theorem dX6_under_0 : decode cX6_under 0 = .ok (.aload_n 0, 1) := by decide +kernel
theorem dX6_under_1 : decode cX6_under 1 = .ok (.iconst 0, 1) := by decide +kernel
theorem dX6_under_2 : decode cX6_under 2 = .ok (.putfield 45, 3) := by decide +kernel
theorem dX6_under_5 : decode cX6_under 5 = .ok (.aload_n 0, 1) := by decide +kernel
theorem dX6_under_6 : decode cX6_under 6 = .ok (.iload_n 1, 1) := by decide +kernel
theorem dX6_under_7 : decode cX6_under 7 = .ok (.invokevirtual 118, 3) := by decide +kernel
theorem dX6_under_10 : decode cX6_under 10 = .ok (.ifCond .eq 7, 3) := by decide +kernel
theorem dX6_under_13 : decode cX6_under 13 = .ok (.iconst (-1), 1) := by decide +kernel
theorem dX6_under_14 : decode cX6_under 14 = .ok (.goto 25, 3) := by decide +kernel
theorem dX6_under_17 : decode cX6_under 17 = .ok (.aload_n 0, 1) := by decide +kernel
theorem dX6_under_18 : decode cX6_under 18 = .ok (.getfield 16, 3) := by decide +kernel
theorem dX6_under_21 : decode cX6_under 21 = .ok (.iload_n 1, 1) := by decide +kernel
theorem dX6_under_22 : decode cX6_under 22 = .ok (.aload_n 0, 1) := by decide +kernel
theorem dX6_under_23 : decode cX6_under 23 = .ok (.getfield 16, 3) := by decide +kernel
theorem dX6_under_26 : decode cX6_under 26 = .ok (.bipush 65, 2) := by decide +kernel
theorem dX6_under_28 : decode cX6_under 28 = .ok (.iaload, 1) := by decide +kernel
theorem dX6_under_29 : decode cX6_under 29 = .ok (.aload_n 0, 1) := by decide +kernel
theorem dX6_under_30 : decode cX6_under 30 = .ok (.getfield 16, 3) := by decide +kernel
theorem dX6_under_33 : decode cX6_under 33 = .ok (.bipush 66, 2) := by decide +kernel
theorem dX6_under_35 : decode cX6_under 35 = .ok (.iaload, 1) := by decide +kernel
theorem dX6_under_36 : decode cX6_under 36 = .ok (.invokestatic 101, 3) := by decide +kernel
theorem dX6_under_39 : decode cX6_under 39 = .ok (.ireturn, 1) := by decide +kernel
theorem dX6_hanging_0 : decode cX6_hanging 0 = .ok (.iconst 1, 1) := by decide +kernel
theorem dX6_hanging_1 : decode cX6_hanging 1 = .ok (.iload_n 1, 1) := by decide +kernel
theorem dX6_hanging_2 : decode cX6_hanging 2 = .ok (.ishl, 1) := by decide +kernel
theorem dX6_hanging_3 : decode cX6_hanging 3 = .ok (.istore_n 3, 1) := by decide +kernel
theorem dX6_hanging_4 : decode cX6_hanging 4 = .ok (.iconst 0, 1) := by decide +kernel
theorem dX6_hanging_5 : decode cX6_hanging 5 = .ok (.istore 4, 2) := by decide +kernel
theorem dX6_hanging_7 : decode cX6_hanging 7 = .ok (.iload 4, 2) := by decide +kernel
theorem dX6_hanging_9 : decode cX6_hanging 9 = .ok (.iload_n 3, 1) := by decide +kernel
theorem dX6_hanging_10 : decode cX6_hanging 10 = .ok (.if_icmp .eq 134, 3) := by decide +kernel
theorem dX6_hanging_13 : decode cX6_hanging 13 = .ok (.iload_n 3, 1) := by decide +kernel
theorem dX6_hanging_14 : decode cX6_hanging 14 = .ok (.istore 4, 2) := by decide +kernel
theorem dX6_hanging_16 : decode cX6_hanging 16 = .ok (.iconst 0, 1) := by decide +kernel
theorem dX6_hanging_17 : decode cX6_hanging 17 = .ok (.istore 5, 2) := by decide +kernel
theorem dX6_hanging_19 : decode cX6_hanging 19 = .ok (.iload 5, 2) := by decide +kernel
theorem dX6_hanging_21 : decode cX6_hanging 21 = .ok (.aload_n 0, 1) := by decide +kernel
theorem dX6_hanging_22 : decode cX6_hanging 22 = .ok (.invokestatic 53, 3) := by decide +kernel
theorem dX6_hanging_25 : decode cX6_hanging 25 = .ok (.if_icmp .ge 116, 3) := by decide +kernel
theorem dX6_hanging_28 : decode cX6_hanging 28 = .ok (.iconst 0, 1) := by decide +kernel
theorem dX6_hanging_29 : decode cX6_hanging 29 = .ok (.istore 6, 2) := by decide +kernel
theorem dX6_hanging_31 : decode cX6_hanging 31 = .ok (.iload 6, 2) := by decide +kernel
theorem dX6_hanging_33 : decode cX6_hanging 33 = .ok (.aload_n 0, 1) := by decide +kernel
theorem dX6_hanging_34 : decode cX6_hanging 34 = .ok (.invokestatic 53, 3) := by decide +kernel
theorem dX6_hanging_37 : decode cX6_hanging 37 = .ok (.if_icmp .ge 98, 3) := by decide +kernel
theorem dX6_hanging_40 : decode cX6_hanging 40 = .ok (.iload_n 2, 1) := by decide +kernel
theorem dX6_hanging_41 : decode cX6_hanging 41 = .ok (.iload 5, 2) := by decide +kernel
theorem dX6_hanging_43 : decode cX6_hanging 43 = .ok (.invokestatic 126, 3) := by decide +kernel
theorem dX6_hanging_46 : decode cX6_hanging 46 = .ok (.ifCond .eq 89, 3) := by decide +kernel
theorem dX6_hanging_49 : decode cX6_hanging 49 = .ok (.iload_n 3, 1) := by decide +kernel
theorem dX6_hanging_50 : decode cX6_hanging 50 = .ok (.iload 5, 2) := by decide +kernel
theorem dX6_hanging_52 : decode cX6_hanging 52 = .ok (.invokestatic 126, 3) := by decide +kernel
theorem dX6_hanging_55 : decode cX6_hanging 55 = .ok (.ifCond .ne 80, 3) := by decide +kernel
theorem dX6_hanging_58 : decode cX6_hanging 58 = .ok (.iload 4, 2) := by decide +kernel
theorem dX6_hanging_60 : decode cX6_hanging 60 = .ok (.iload 6, 2) := by decide +kernel
theorem dX6_hanging_62 : decode cX6_hanging 62 = .ok (.invokestatic 126, 3) := by decide +kernel
theorem dX6_hanging_65 : decode cX6_hanging 65 = .ok (.ifCond .eq 45, 3) := by decide +kernel
theorem dX6_hanging_68 : decode cX6_hanging 68 = .ok (.iload 5, 2) := by decide +kernel
theorem dX6_hanging_70 : decode cX6_hanging 70 = .ok (.aload_n 0, 1) := by decide +kernel
theorem dX6_hanging_71 : decode cX6_hanging 71 = .ok (.iconst 0, 1) := by decide +kernel
theorem dX6_hanging_72 : decode cX6_hanging 72 = .ok (.iaload, 1) := by decide +kernel
theorem dX6_hanging_73 : decode cX6_hanging 73 = .ok (.irem, 1) := by decide +kernel
theorem dX6_hanging_74 : decode cX6_hanging 74 = .ok (.iload 6, 2) := by decide +kernel
theorem dX6_hanging_76 : decode cX6_hanging 76 = .ok (.aload_n 0, 1) := by decide +kernel
theorem dX6_hanging_77 : decode cX6_hanging 77 = .ok (.iconst 0, 1) := by decide +kernel
theorem dX6_hanging_78 : decode cX6_hanging 78 = .ok (.iaload, 1) := by decide +kernel
theorem dX6_hanging_79 : decode cX6_hanging 79 = .ok (.irem, 1) := by decide +kernel
theorem dX6_hanging_80 : decode cX6_hanging 80 = .ok (.invokestatic 90, 3) := by decide +kernel
theorem dX6_hanging_83 : decode cX6_hanging 83 = .ok (.iconst 2, 1) := by decide +kernel
theorem dX6_hanging_84 : decode cX6_hanging 84 = .ok (.if_icmp .ge 26, 3) := by decide +kernel
theorem dX6_hanging_87 : decode cX6_hanging 87 = .ok (.iload 5, 2) := by decide +kernel
theorem dX6_hanging_89 : decode cX6_hanging 89 = .ok (.aload_n 0, 1) := by decide +kernel
theorem dX6_hanging_90 : decode cX6_hanging 90 = .ok (.iconst 0, 1) := by decide +kernel
theorem dX6_hanging_91 : decode cX6_hanging 91 = .ok (.iaload, 1) := by decide +kernel
theorem dX6_hanging_92 : decode cX6_hanging 92 = .ok (.idiv, 1) := by decide +kernel
theorem dX6_hanging_93 : decode cX6_hanging 93 = .ok (.iload 6, 2) := by decide +kernel
theorem dX6_hanging_95 : decode cX6_hanging 95 = .ok (.aload_n 0, 1) := by decide +kernel
theorem dX6_hanging_96 : decode cX6_hanging 96 = .ok (.iconst 0, 1) := by decide +kernel
theorem dX6_hanging_97 : decode cX6_hanging 97 = .ok (.iaload, 1) := by decide +kernel
theorem dX6_hanging_98 : decode cX6_hanging 98 = .ok (.idiv, 1) := by decide +kernel
theorem dX6_hanging_99 : decode cX6_hanging 99 = .ok (.invokestatic 90, 3) := by decide +kernel
theorem dX6_hanging_102 : decode cX6_hanging 102 = .ok (.iconst 2, 1) := by decide +kernel
theorem dX6_hanging_103 : decode cX6_hanging 103 = .ok (.if_icmp .ge 7, 3) := by decide +kernel
theorem dX6_hanging_106 : decode cX6_hanging 106 = .ok (.iconst 1, 1) := by decide +kernel
theorem dX6_hanging_107 : decode cX6_hanging 107 = .ok (.goto 4, 3) := by decide +kernel
theorem dX6_hanging_110 : decode cX6_hanging 110 = .ok (.iconst 0, 1) := by decide +kernel
theorem dX6_hanging_111 : decode cX6_hanging 111 = .ok (.istore 7, 2) := by decide +kernel
theorem dX6_hanging_113 : decode cX6_hanging 113 = .ok (.iload_n 3, 1) := by decide +kernel
theorem dX6_hanging_114 : decode cX6_hanging 114 = .ok (.iload 7, 2) := by decide +kernel
theorem dX6_hanging_116 : decode cX6_hanging 116 = .ok (.ifCond .eq 10, 3) := by decide +kernel
theorem dX6_hanging_119 : decode cX6_hanging 119 = .ok (.iconst 1, 1) := by decide +kernel
theorem dX6_hanging_120 : decode cX6_hanging 120 = .ok (.iload 5, 2) := by decide +kernel
theorem dX6_hanging_122 : decode cX6_hanging 122 = .ok (.ishl, 1) := by decide +kernel
theorem dX6_hanging_123 : decode cX6_hanging 123 = .ok (.goto 4, 3) := by decide +kernel
theorem dX6_hanging_126 : decode cX6_hanging 126 = .ok (.iconst 0, 1) := by decide +kernel
theorem dX6_hanging_127 : decode cX6_hanging 127 = .ok (.ior, 1) := by decide +kernel
theorem dX6_hanging_128 : decode cX6_hanging 128 = .ok (.istore_n 3, 1) := by decide +kernel
theorem dX6_hanging_129 : decode cX6_hanging 129 = .ok (.iinc 6 1, 3) := by decide +kernel
theorem dX6_hanging_132 : decode cX6_hanging 132 = .ok (.goto (-101), 3) := by decide +kernel
theorem dX6_hanging_135 : decode cX6_hanging 135 = .ok (.iinc 5 1, 3) := by decide +kernel
theorem dX6_hanging_138 : decode cX6_hanging 138 = .ok (.goto (-119), 3) := by decide +kernel
theorem dX6_hanging_141 : decode cX6_hanging 141 = .ok (.goto (-134), 3) := by decide +kernel
theorem dX6_hanging_144 : decode cX6_hanging 144 = .ok (.iload_n 3, 1) := by decide +kernel
theorem dX6_hanging_145 : decode cX6_hanging 145 = .ok (.ireturn, 1) := by decide +kernel
theorem dX6_cleaned_0 : decode cX6_cleaned 0 = .ok (.aload_n 0, 1) := by decide +kernel
theorem dX6_cleaned_1 : decode cX6_cleaned 1 = .ok (.iconst 0, 1) := by decide +kernel
theorem dX6_cleaned_2 : decode cX6_cleaned 2 = .ok (.putfield 45, 3) := by decide +kernel
theorem dX6_cleaned_5 : decode cX6_cleaned 5 = .ok (.iload_n 1, 1) := by decide +kernel
theorem dX6_cleaned_6 : decode cX6_cleaned 6 = .ok (.i2l, 1) := by decide +kernel
theorem dX6_cleaned_7 : decode cX6_cleaned 7 = .ok (.lconst 0, 1) := by decide +kernel
theorem dX6_cleaned_8 : decode cX6_cleaned 8 = .ok (.ldc2_w 130, 3) := by decide +kernel
theorem dX6_cleaned_11 : decode cX6_cleaned 11 = .ok (.invokestatic 57, 3) := by decide +kernel
theorem dX6_cleaned_14 : decode cX6_cleaned 14 = .ok (.ifCond .ne 6, 3) := by decide +kernel
theorem dX6_cleaned_17 : decode cX6_cleaned 17 = .ok (.bipush (-2), 2) := by decide +kernel
theorem dX6_cleaned_19 : decode cX6_cleaned 19 = .ok (.ireturn, 1) := by decide +kernel
theorem dX6_cleaned_20 : decode cX6_cleaned 20 = .ok (.aload_n 0, 1) := by decide +kernel
theorem dX6_cleaned_21 : decode cX6_cleaned 21 = .ok (.aload_n 0, 1) := by decide +kernel
theorem dX6_cleaned_22 : decode cX6_cleaned 22 = .ok (.getfield 16, 3) := by decide +kernel
theorem dX6_cleaned_25 : decode cX6_cleaned 25 = .ok (.invokevirtual 132, 3) := by decide +kernel
theorem dX6_cleaned_28 : decode cX6_cleaned 28 = .ok (.istore_n 2, 1) := by decide +kernel
theorem dX6_cleaned_29 : decode cX6_cleaned 29 = .ok (.iconst 0, 1) := by decide +kernel
theorem dX6_cleaned_30 : decode cX6_cleaned 30 = .ok (.istore_n 3, 1) := by decide +kernel
theorem dX6_cleaned_31 : decode cX6_cleaned 31 = .ok (.iconst 0, 1) := by decide +kernel
theorem dX6_cleaned_32 : decode cX6_cleaned 32 = .ok (.istore 4, 2) := by decide +kernel
theorem dX6_cleaned_34 : decode cX6_cleaned 34 = .ok (.iload 4, 2) := by decide +kernel
theorem dX6_cleaned_36 : decode cX6_cleaned 36 = .ok (.aload_n 0, 1) := by decide +kernel
theorem dX6_cleaned_37 : decode cX6_cleaned 37 = .ok (.getfield 16, 3) := by decide +kernel
theorem dX6_cleaned_40 : decode cX6_cleaned 40 = .ok (.invokestatic 53, 3) := by decide +kernel
theorem dX6_cleaned_43 : decode cX6_cleaned 43 = .ok (.if_icmp .ge 46, 3) := by decide +kernel
theorem dX6_cleaned_46 : decode cX6_cleaned 46 = .ok (.iload_n 3, 1) := by decide +kernel
theorem dX6_cleaned_47 : decode cX6_cleaned 47 = .ok (.iload_n 2, 1) := by decide +kernel
theorem dX6_cleaned_48 : decode cX6_cleaned 48 = .ok (.iload 4, 2) := by decide +kernel
theorem dX6_cleaned_50 : decode cX6_cleaned 50 = .ok (.invokestatic 126, 3) := by decide +kernel
theorem dX6_cleaned_53 : decode cX6_cleaned 53 = .ok (.ifCond .eq 27, 3) := by decide +kernel
theorem dX6_cleaned_56 : decode cX6_cleaned 56 = .ok (.aload_n 0, 1) := by decide +kernel
theorem dX6_cleaned_57 : decode cX6_cleaned 57 = .ok (.getfield 16, 3) := by decide +kernel
theorem dX6_cleaned_60 : decode cX6_cleaned 60 = .ok (.iload 4, 2) := by decide +kernel
theorem dX6_cleaned_62 : decode cX6_cleaned 62 = .ok (.iload_n 2, 1) := by decide +kernel
theorem dX6_cleaned_63 : decode cX6_cleaned 63 = .ok (.invokestatic 135, 3) := by decide +kernel
theorem dX6_cleaned_66 : decode cX6_cleaned 66 = .ok (.invokestatic 139, 3) := by decide +kernel
theorem dX6_cleaned_69 : decode cX6_cleaned 69 = .ok (.iload_n 1, 1) := by decide +kernel
theorem dX6_cleaned_70 : decode cX6_cleaned 70 = .ok (.if_icmp .le 10, 3) := by decide +kernel
theorem dX6_cleaned_73 : decode cX6_cleaned 73 = .ok (.iconst 1, 1) := by decide +kernel
theorem dX6_cleaned_74 : decode cX6_cleaned 74 = .ok (.iload 4, 2) := by decide +kernel
theorem dX6_cleaned_76 : decode cX6_cleaned 76 = .ok (.ishl, 1) := by decide +kernel
theorem dX6_cleaned_77 : decode cX6_cleaned 77 = .ok (.goto 4, 3) := by decide +kernel
theorem dX6_cleaned_80 : decode cX6_cleaned 80 = .ok (.iconst 0, 1) := by decide +kernel
theorem dX6_cleaned_81 : decode cX6_cleaned 81 = .ok (.ior, 1) := by decide +kernel
theorem dX6_cleaned_82 : decode cX6_cleaned 82 = .ok (.istore_n 3, 1) := by decide +kernel
theorem dX6_cleaned_83 : decode cX6_cleaned 83 = .ok (.iinc 4 1, 3) := by decide +kernel
theorem dX6_cleaned_86 : decode cX6_cleaned 86 = .ok (.goto (-52), 3) := by decide +kernel
theorem dX6_cleaned_89 : decode cX6_cleaned 89 = .ok (.iload_n 3, 1) := by decide +kernel
theorem dX6_cleaned_90 : decode cX6_cleaned 90 = .ok (.ireturn, 1) := by decide +kernel
theorem dX6_note_0 : decode cX6_note 0 = .ok (.aload_n 0, 1) := by decide +kernel
theorem dX6_note_1 : decode cX6_note 1 = .ok (.getfield 78, 3) := by decide +kernel
theorem dX6_note_4 : decode cX6_note 4 = .ok (.bipush 14, 2) := by decide +kernel
theorem dX6_note_6 : decode cX6_note 6 = .ok (.if_icmp .ne 43, 3) := by decide +kernel
theorem dX6_note_9 : decode cX6_note 9 = .ok (.iconst 0, 1) := by decide +kernel
theorem dX6_note_10 : decode cX6_note 10 = .ok (.istore_n 1, 1) := by decide +kernel
theorem dX6_note_11 : decode cX6_note 11 = .ok (.iload_n 1, 1) := by decide +kernel
theorem dX6_note_12 : decode cX6_note 12 = .ok (.sipush 871, 3) := by decide +kernel
theorem dX6_note_15 : decode cX6_note 15 = .ok (.if_icmp .ge 24, 3) := by decide +kernel
theorem dX6_note_18 : decode cX6_note 18 = .ok (.aload_n 0, 1) := by decide +kernel
theorem dX6_note_19 : decode cX6_note 19 = .ok (.getfield 22, 3) := by decide +kernel
theorem dX6_note_22 : decode cX6_note 22 = .ok (.iload_n 1, 1) := by decide +kernel
theorem dX6_note_23 : decode cX6_note 23 = .ok (.aload_n 0, 1) := by decide +kernel
theorem dX6_note_24 : decode cX6_note 24 = .ok (.getfield 22, 3) := by decide +kernel
theorem dX6_note_27 : decode cX6_note 27 = .ok (.iload_n 1, 1) := by decide +kernel
theorem dX6_note_28 : decode cX6_note 28 = .ok (.bipush 67, 2) := by decide +kernel
theorem dX6_note_30 : decode cX6_note 30 = .ok (.iadd, 1) := by decide +kernel
theorem dX6_note_31 : decode cX6_note 31 = .ok (.iaload, 1) := by decide +kernel
theorem dX6_note_32 : decode cX6_note 32 = .ok (.iastore, 1) := by decide +kernel
theorem dX6_note_33 : decode cX6_note 33 = .ok (.iinc 1 1, 3) := by decide +kernel
theorem dX6_note_36 : decode cX6_note 36 = .ok (.goto (-25), 3) := by decide +kernel
theorem dX6_note_39 : decode cX6_note 39 = .ok (.aload_n 0, 1) := by decide +kernel
theorem dX6_note_40 : decode cX6_note 40 = .ok (.dup, 1) := by decide +kernel
theorem dX6_note_41 : decode cX6_note 41 = .ok (.getfield 78, 3) := by decide +kernel
theorem dX6_note_44 : decode cX6_note 44 = .ok (.iconst 1, 1) := by decide +kernel
theorem dX6_note_45 : decode cX6_note 45 = .ok (.isub, 1) := by decide +kernel
theorem dX6_note_46 : decode cX6_note 46 = .ok (.putfield 78, 3) := by decide +kernel
theorem dX6_note_49 : decode cX6_note 49 = .ok (.iconst 0, 1) := by decide +kernel
theorem dX6_note_50 : decode cX6_note 50 = .ok (.istore_n 1, 1) := by decide +kernel
theorem dX6_note_51 : decode cX6_note 51 = .ok (.iload_n 1, 1) := by decide +kernel
theorem dX6_note_52 : decode cX6_note 52 = .ok (.bipush 67, 2) := by decide +kernel
theorem dX6_note_54 : decode cX6_note 54 = .ok (.if_icmp .ge 29, 3) := by decide +kernel
theorem dX6_note_57 : decode cX6_note 57 = .ok (.aload_n 0, 1) := by decide +kernel
theorem dX6_note_58 : decode cX6_note 58 = .ok (.getfield 22, 3) := by decide +kernel
theorem dX6_note_61 : decode cX6_note 61 = .ok (.bipush 67, 2) := by decide +kernel
theorem dX6_note_63 : decode cX6_note 63 = .ok (.aload_n 0, 1) := by decide +kernel
theorem dX6_note_64 : decode cX6_note 64 = .ok (.getfield 78, 3) := by decide +kernel
theorem dX6_note_67 : decode cX6_note 67 = .ok (.imul, 1) := by decide +kernel
theorem dX6_note_68 : decode cX6_note 68 = .ok (.iload_n 1, 1) := by decide +kernel
theorem dX6_note_69 : decode cX6_note 69 = .ok (.iadd, 1) := by decide +kernel
theorem dX6_note_70 : decode cX6_note 70 = .ok (.aload_n 0, 1) := by decide +kernel
theorem dX6_note_71 : decode cX6_note 71 = .ok (.getfield 16, 3) := by decide +kernel
theorem dX6_note_74 : decode cX6_note 74 = .ok (.iload_n 1, 1) := by decide +kernel
theorem dX6_note_75 : decode cX6_note 75 = .ok (.iaload, 1) := by decide +kernel
theorem dX6_note_76 : decode cX6_note 76 = .ok (.iastore, 1) := by decide +kernel
theorem dX6_note_77 : decode cX6_note 77 = .ok (.iinc 1 1, 3) := by decide +kernel
theorem dX6_note_80 : decode cX6_note 80 = .ok (.goto (-29), 3) := by decide +kernel
theorem dX6_note_83 : decode cX6_note 83 = .ok (.aload_n 0, 1) := by decide +kernel
theorem dX6_note_84 : decode cX6_note 84 = .ok (.dup, 1) := by decide +kernel
theorem dX6_note_85 : decode cX6_note 85 = .ok (.getfield 78, 3) := by decide +kernel
theorem dX6_note_88 : decode cX6_note 88 = .ok (.iconst 1, 1) := by decide +kernel
theorem dX6_note_89 : decode cX6_note 89 = .ok (.iadd, 1) := by decide +kernel
theorem dX6_note_90 : decode cX6_note 90 = .ok (.putfield 78, 3) := by decide +kernel
theorem dX6_note_93 : decode cX6_note 93 = .ok (.return_, 1) := by decide +kernel
theorem dX6_paint_0 : decode cX6_paint 0 = .ok (.aload_n 0, 1) := by decide +kernel
theorem dX6_paint_1 : decode cX6_paint 1 = .ok (.iconst 0, 1) := by decide +kernel
theorem dX6_paint_2 : decode cX6_paint 2 = .ok (.putfield 45, 3) := by decide +kernel
theorem dX6_paint_5 : decode cX6_paint 5 = .ok (.iload_n 1, 1) := by decide +kernel
theorem dX6_paint_6 : decode cX6_paint 6 = .ok (.i2l, 1) := by decide +kernel
theorem dX6_paint_7 : decode cX6_paint 7 = .ok (.lconst 0, 1) := by decide +kernel
theorem dX6_paint_8 : decode cX6_paint 8 = .ok (.lconst 1, 1) := by decide +kernel
theorem dX6_paint_9 : decode cX6_paint 9 = .ok (.invokestatic 57, 3) := by decide +kernel
theorem dX6_paint_12 : decode cX6_paint 12 = .ok (.ifCond .eq 11, 3) := by decide +kernel
theorem dX6_paint_15 : decode cX6_paint 15 = .ok (.aload_n 0, 1) := by decide +kernel
theorem dX6_paint_16 : decode cX6_paint 16 = .ok (.iload_n 2, 1) := by decide +kernel
theorem dX6_paint_17 : decode cX6_paint 17 = .ok (.invokevirtual 118, 3) := by decide +kernel
theorem dX6_paint_20 : decode cX6_paint 20 = .ok (.ifCond .eq 5, 3) := by decide +kernel
theorem dX6_paint_23 : decode cX6_paint 23 = .ok (.iconst (-1), 1) := by decide +kernel
theorem dX6_paint_24 : decode cX6_paint 24 = .ok (.ireturn, 1) := by decide +kernel
theorem dX6_paint_25 : decode cX6_paint 25 = .ok (.iload_n 3, 1) := by decide +kernel
theorem dX6_paint_26 : decode cX6_paint 26 = .ok (.i2l, 1) := by decide +kernel
theorem dX6_paint_27 : decode cX6_paint 27 = .ok (.lconst 0, 1) := by decide +kernel
theorem dX6_paint_28 : decode cX6_paint 28 = .ok (.ldc2_w 66, 3) := by decide +kernel
theorem dX6_paint_31 : decode cX6_paint 31 = .ok (.invokestatic 57, 3) := by decide +kernel
theorem dX6_paint_34 : decode cX6_paint 34 = .ok (.ifCond .ne 6, 3) := by decide +kernel
theorem dX6_paint_37 : decode cX6_paint 37 = .ok (.bipush (-2), 2) := by decide +kernel
theorem dX6_paint_39 : decode cX6_paint 39 = .ok (.ireturn, 1) := by decide +kernel
theorem dX6_paint_40 : decode cX6_paint 40 = .ok (.aload_n 0, 1) := by decide +kernel
theorem dX6_paint_41 : decode cX6_paint 41 = .ok (.invokevirtual 142, 3) := by decide +kernel
theorem dX6_paint_44 : decode cX6_paint 44 = .ok (.iload_n 1, 1) := by decide +kernel
theorem dX6_paint_45 : decode cX6_paint 45 = .ok (.ifCond .ne 7, 3) := by decide +kernel
theorem dX6_paint_48 : decode cX6_paint 48 = .ok (.iconst 2, 1) := by decide +kernel
theorem dX6_paint_49 : decode cX6_paint 49 = .ok (.goto 5, 3) := by decide +kernel
theorem dX6_paint_52 : decode cX6_paint 52 = .ok (.bipush 27, 2) := by decide +kernel
theorem dX6_paint_54 : decode cX6_paint 54 = .ok (.iload_n 2, 1) := by decide +kernel
theorem dX6_paint_55 : decode cX6_paint 55 = .ok (.iadd, 1) := by decide +kernel
theorem dX6_paint_56 : decode cX6_paint 56 = .ok (.istore 4, 2) := by decide +kernel
theorem dX6_paint_58 : decode cX6_paint 58 = .ok (.aload_n 0, 1) := by decide +kernel
theorem dX6_paint_59 : decode cX6_paint 59 = .ok (.getfield 16, 3) := by decide +kernel
theorem dX6_paint_62 : decode cX6_paint 62 = .ok (.iload 4, 2) := by decide +kernel
theorem dX6_paint_64 : decode cX6_paint 64 = .ok (.iaload, 1) := by decide +kernel
theorem dX6_paint_65 : decode cX6_paint 65 = .ok (.istore 5, 2) := by decide +kernel
theorem dX6_paint_67 : decode cX6_paint 67 = .ok (.aload_n 0, 1) := by decide +kernel
theorem dX6_paint_68 : decode cX6_paint 68 = .ok (.getfield 16, 3) := by decide +kernel
theorem dX6_paint_71 : decode cX6_paint 71 = .ok (.iload 4, 2) := by decide +kernel
theorem dX6_paint_73 : decode cX6_paint 73 = .ok (.iload_n 3, 1) := by decide +kernel
theorem dX6_paint_74 : decode cX6_paint 74 = .ok (.iastore, 1) := by decide +kernel
theorem dX6_paint_75 : decode cX6_paint 75 = .ok (.iload 5, 2) := by decide +kernel
theorem dX6_paint_77 : decode cX6_paint 77 = .ok (.ireturn, 1) := by decide +kernel
theorem dX6_canLight_0 : decode cX6_canLight 0 = .ok (.iconst 1, 1) := by decide +kernel
theorem dX6_canLight_1 : decode cX6_canLight 1 = .ok (.istore_n 2, 1) := by decide +kernel
theorem dX6_canLight_2 : decode cX6_canLight 2 = .ok (.iconst 0, 1) := by decide +kernel
theorem dX6_canLight_3 : decode cX6_canLight 3 = .ok (.istore_n 3, 1) := by decide +kernel
theorem dX6_canLight_4 : decode cX6_canLight 4 = .ok (.iload_n 3, 1) := by decide +kernel
theorem dX6_canLight_5 : decode cX6_canLight 5 = .ok (.aload_n 0, 1) := by decide +kernel
theorem dX6_canLight_6 : decode cX6_canLight 6 = .ok (.invokestatic 53, 3) := by decide +kernel
theorem dX6_canLight_9 : decode cX6_canLight 9 = .ok (.if_icmp .ge 37, 3) := by decide +kernel
theorem dX6_canLight_12 : decode cX6_canLight 12 = .ok (.iload_n 2, 1) := by decide +kernel
theorem dX6_canLight_13 : decode cX6_canLight 13 = .ok (.ifCond .eq 25, 3) := by decide +kernel
theorem dX6_canLight_16 : decode cX6_canLight 16 = .ok (.aload_n 0, 1) := by decide +kernel
theorem dX6_canLight_17 : decode cX6_canLight 17 = .ok (.iconst 2, 1) := by decide +kernel
theorem dX6_canLight_18 : decode cX6_canLight 18 = .ok (.iload_n 3, 1) := by decide +kernel
theorem dX6_canLight_19 : decode cX6_canLight 19 = .ok (.iadd, 1) := by decide +kernel
theorem dX6_canLight_20 : decode cX6_canLight 20 = .ok (.iaload, 1) := by decide +kernel
theorem dX6_canLight_21 : decode cX6_canLight 21 = .ok (.iload_n 1, 1) := by decide +kernel
theorem dX6_canLight_22 : decode cX6_canLight 22 = .ok (.iadd, 1) := by decide +kernel
theorem dX6_canLight_23 : decode cX6_canLight 23 = .ok (.i2l, 1) := by decide +kernel
theorem dX6_canLight_24 : decode cX6_canLight 24 = .ok (.lconst 0, 1) := by decide +kernel
theorem dX6_canLight_25 : decode cX6_canLight 25 = .ok (.ldc2_w 66, 3) := by decide +kernel
theorem dX6_canLight_28 : decode cX6_canLight 28 = .ok (.invokestatic 57, 3) := by decide +kernel
theorem dX6_canLight_31 : decode cX6_canLight 31 = .ok (.ifCond .eq 7, 3) := by decide +kernel
theorem dX6_canLight_34 : decode cX6_canLight 34 = .ok (.iconst 1, 1) := by decide +kernel
theorem dX6_canLight_35 : decode cX6_canLight 35 = .ok (.goto 4, 3) := by decide +kernel
theorem dX6_canLight_38 : decode cX6_canLight 38 = .ok (.iconst 0, 1) := by decide +kernel
theorem dX6_canLight_39 : decode cX6_canLight 39 = .ok (.istore_n 2, 1) := by decide +kernel
theorem dX6_canLight_40 : decode cX6_canLight 40 = .ok (.iinc 3 1, 3) := by decide +kernel
theorem dX6_canLight_43 : decode cX6_canLight 43 = .ok (.goto (-39), 3) := by decide +kernel
theorem dX6_canLight_46 : decode cX6_canLight 46 = .ok (.iload_n 2, 1) := by decide +kernel
theorem dX6_canLight_47 : decode cX6_canLight 47 = .ok (.ireturn, 1) := by decide +kernel
theorem dX6_goLight_0 : decode cX6_goLight 0 = .ok (.iconst 0, 1) := by decide +kernel
theorem dX6_goLight_1 : decode cX6_goLight 1 = .ok (.istore_n 2, 1) := by decide +kernel
theorem dX6_goLight_2 : decode cX6_goLight 2 = .ok (.iload_n 2, 1) := by decide +kernel
theorem dX6_goLight_3 : decode cX6_goLight 3 = .ok (.aload_n 0, 1) := by decide +kernel
theorem dX6_goLight_4 : decode cX6_goLight 4 = .ok (.invokestatic 53, 3) := by decide +kernel
theorem dX6_goLight_7 : decode cX6_goLight 7 = .ok (.if_icmp .ge 18, 3) := by decide +kernel
theorem dX6_goLight_10 : decode cX6_goLight 10 = .ok (.aload_n 0, 1) := by decide +kernel
theorem dX6_goLight_11 : decode cX6_goLight 11 = .ok (.iconst 2, 1) := by decide +kernel
theorem dX6_goLight_12 : decode cX6_goLight 12 = .ok (.iload_n 2, 1) := by decide +kernel
theorem dX6_goLight_13 : decode cX6_goLight 13 = .ok (.iadd, 1) := by decide +kernel
theorem dX6_goLight_14 : decode cX6_goLight 14 = .ok (.dup2, 1) := by decide +kernel
theorem dX6_goLight_15 : decode cX6_goLight 15 = .ok (.iaload, 1) := by decide +kernel
theorem dX6_goLight_16 : decode cX6_goLight 16 = .ok (.iload_n 1, 1) := by decide +kernel
theorem dX6_goLight_17 : decode cX6_goLight 17 = .ok (.iadd, 1) := by decide +kernel
theorem dX6_goLight_18 : decode cX6_goLight 18 = .ok (.iastore, 1) := by decide +kernel
theorem dX6_goLight_19 : decode cX6_goLight 19 = .ok (.iinc 2 1, 3) := by decide +kernel
theorem dX6_goLight_22 : decode cX6_goLight 22 = .ok (.goto (-20), 3) := by decide +kernel
theorem dX6_goLight_25 : decode cX6_goLight 25 = .ok (.return_, 1) := by decide +kernel
theorem dX6_light_0 : decode cX6_light 0 = .ok (.aload_n 0, 1) := by decide +kernel
theorem dX6_light_1 : decode cX6_light 1 = .ok (.iconst 0, 1) := by decide +kernel
theorem dX6_light_2 : decode cX6_light 2 = .ok (.putfield 45, 3) := by decide +kernel
theorem dX6_light_5 : decode cX6_light 5 = .ok (.iload_n 1, 1) := by decide +kernel
theorem dX6_light_6 : decode cX6_light 6 = .ok (.i2l, 1) := by decide +kernel
theorem dX6_light_7 : decode cX6_light 7 = .ok (.ldc2_w 145, 3) := by decide +kernel
theorem dX6_light_10 : decode cX6_light 10 = .ok (.ldc2_w 66, 3) := by decide +kernel
theorem dX6_light_13 : decode cX6_light 13 = .ok (.invokestatic 57, 3) := by decide +kernel
theorem dX6_light_16 : decode cX6_light 16 = .ok (.ifCond .ne 6, 3) := by decide +kernel
theorem dX6_light_19 : decode cX6_light 19 = .ok (.bipush (-2), 2) := by decide +kernel
theorem dX6_light_21 : decode cX6_light 21 = .ok (.ireturn, 1) := by decide +kernel
theorem dX6_light_22 : decode cX6_light 22 = .ok (.aload_n 0, 1) := by decide +kernel
theorem dX6_light_23 : decode cX6_light 23 = .ok (.getfield 16, 3) := by decide +kernel
theorem dX6_light_26 : decode cX6_light 26 = .ok (.iload_n 1, 1) := by decide +kernel
