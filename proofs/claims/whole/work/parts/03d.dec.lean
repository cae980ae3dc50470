theorem dX6_light_27 : decode cX6_light 27 = .ok (.invokestatic 147, 3) := by decide +kernel
theorem dX6_light_30 : decode cX6_light 30 = .ok (.ifCond .ne 6, 3) := by decide +kernel
theorem dX6_light_33 : decode cX6_light 33 = .ok (.bipush (-3), 2) := by decide +kernel
theorem dX6_light_35 : decode cX6_light 35 = .ok (.ireturn, 1) := by decide +kernel
theorem dX6_light_36 : decode cX6_light 36 = .ok (.aload_n 0, 1) := by decide +kernel
theorem dX6_light_37 : decode cX6_light 37 = .ok (.invokevirtual 142, 3) := by decide +kernel
theorem dX6_light_40 : decode cX6_light 40 = .ok (.aload_n 0, 1) := by decide +kernel
theorem dX6_light_41 : decode cX6_light 41 = .ok (.getfield 16, 3) := by decide +kernel
theorem dX6_light_44 : decode cX6_light 44 = .ok (.iload_n 1, 1) := by decide +kernel
theorem dX6_light_45 : decode cX6_light 45 = .ok (.invokestatic 150, 3) := by decide +kernel
theorem dX6_light_48 : decode cX6_light 48 = .ok (.aload_n 0, 1) := by decide +kernel
theorem dX6_light_49 : decode cX6_light 49 = .ok (.getfield 16, 3) := by decide +kernel
theorem dX6_light_52 : decode cX6_light 52 = .ok (.invokestatic 112, 3) := by decide +kernel
theorem dX6_light_55 : decode cX6_light 55 = .ok (.ireturn, 1) := by decide +kernel
theorem dX6_isRule_0 : decode cX6_isRule 0 = .ok (.iload_n 0, 1) := by decide +kernel
theorem dX6_isRule_1 : decode cX6_isRule 1 = .ok (.i2l, 1) := by decide +kernel
theorem dX6_isRule_2 : decode cX6_isRule 2 = .ok (.lconst 0, 1) := by decide +kernel
theorem dX6_isRule_3 : decode cX6_isRule 3 = .ok (.ldc2_w 154, 3) := by decide +kernel
theorem dX6_isRule_6 : decode cX6_isRule 6 = .ok (.invokestatic 57, 3) := by decide +kernel
theorem dX6_isRule_9 : decode cX6_isRule 9 = .ok (.ifCond .eq 31, 3) := by decide +kernel
theorem dX6_isRule_12 : decode cX6_isRule 12 = .ok (.iload_n 1, 1) := by decide +kernel
theorem dX6_isRule_13 : decode cX6_isRule 13 = .ok (.i2l, 1) := by decide +kernel
theorem dX6_isRule_14 : decode cX6_isRule 14 = .ok (.lconst 0, 1) := by decide +kernel
theorem dX6_isRule_15 : decode cX6_isRule 15 = .ok (.ldc2_w 154, 3) := by decide +kernel
theorem dX6_isRule_18 : decode cX6_isRule 18 = .ok (.invokestatic 57, 3) := by decide +kernel
theorem dX6_isRule_21 : decode cX6_isRule 21 = .ok (.ifCond .eq 19, 3) := by decide +kernel
theorem dX6_isRule_24 : decode cX6_isRule 24 = .ok (.iload_n 2, 1) := by decide +kernel
theorem dX6_isRule_25 : decode cX6_isRule 25 = .ok (.i2l, 1) := by decide +kernel
theorem dX6_isRule_26 : decode cX6_isRule 26 = .ok (.lconst 0, 1) := by decide +kernel
theorem dX6_isRule_27 : decode cX6_isRule 27 = .ok (.ldc2_w 66, 3) := by decide +kernel
theorem dX6_isRule_30 : decode cX6_isRule 30 = .ok (.invokestatic 57, 3) := by decide +kernel
theorem dX6_isRule_33 : decode cX6_isRule 33 = .ok (.ifCond .eq 7, 3) := by decide +kernel
theorem dX6_isRule_36 : decode cX6_isRule 36 = .ok (.iconst 1, 1) := by decide +kernel
theorem dX6_isRule_37 : decode cX6_isRule 37 = .ok (.goto 4, 3) := by decide +kernel
theorem dX6_isRule_40 : decode cX6_isRule 40 = .ok (.iconst 0, 1) := by decide +kernel
theorem dX6_isRule_41 : decode cX6_isRule 41 = .ok (.ireturn, 1) := by decide +kernel
theorem dX6_goRule_0 : decode cX6_goRule 0 = .ok (.aload_n 0, 1) := by decide +kernel
theorem dX6_goRule_1 : decode cX6_goRule 1 = .ok (.bipush 52, 2) := by decide +kernel
theorem dX6_goRule_3 : decode cX6_goRule 3 = .ok (.iload_n 1, 1) := by decide +kernel
theorem dX6_goRule_4 : decode cX6_goRule 4 = .ok (.iastore, 1) := by decide +kernel
theorem dX6_goRule_5 : decode cX6_goRule 5 = .ok (.aload_n 0, 1) := by decide +kernel
theorem dX6_goRule_6 : decode cX6_goRule 6 = .ok (.bipush 53, 2) := by decide +kernel
theorem dX6_goRule_8 : decode cX6_goRule 8 = .ok (.iload_n 2, 1) := by decide +kernel
theorem dX6_goRule_9 : decode cX6_goRule 9 = .ok (.iastore, 1) := by decide +kernel
theorem dX6_goRule_10 : decode cX6_goRule 10 = .ok (.aload_n 0, 1) := by decide +kernel
theorem dX6_goRule_11 : decode cX6_goRule 11 = .ok (.bipush 54, 2) := by decide +kernel
theorem dX6_goRule_13 : decode cX6_goRule 13 = .ok (.iload_n 3, 1) := by decide +kernel
theorem dX6_goRule_14 : decode cX6_goRule 14 = .ok (.iastore, 1) := by decide +kernel
theorem dX6_goRule_15 : decode cX6_goRule 15 = .ok (.return_, 1) := by decide +kernel
theorem dX6_rule_0 : decode cX6_rule 0 = .ok (.aload_n 0, 1) := by decide +kernel
theorem dX6_rule_1 : decode cX6_rule 1 = .ok (.iconst 0, 1) := by decide +kernel
theorem dX6_rule_2 : decode cX6_rule 2 = .ok (.putfield 45, 3) := by decide +kernel
theorem dX6_rule_5 : decode cX6_rule 5 = .ok (.iload_n 1, 1) := by decide +kernel
theorem dX6_rule_6 : decode cX6_rule 6 = .ok (.iload_n 2, 1) := by decide +kernel
theorem dX6_rule_7 : decode cX6_rule 7 = .ok (.iload_n 3, 1) := by decide +kernel
theorem dX6_rule_8 : decode cX6_rule 8 = .ok (.invokestatic 156, 3) := by decide +kernel
theorem dX6_rule_11 : decode cX6_rule 11 = .ok (.ifCond .ne 6, 3) := by decide +kernel
theorem dX6_rule_14 : decode cX6_rule 14 = .ok (.bipush (-2), 2) := by decide +kernel
theorem dX6_rule_16 : decode cX6_rule 16 = .ok (.ireturn, 1) := by decide +kernel
theorem dX6_rule_17 : decode cX6_rule 17 = .ok (.aload_n 0, 1) := by decide +kernel
theorem dX6_rule_18 : decode cX6_rule 18 = .ok (.invokevirtual 142, 3) := by decide +kernel
theorem dX6_rule_21 : decode cX6_rule 21 = .ok (.aload_n 0, 1) := by decide +kernel
theorem dX6_rule_22 : decode cX6_rule 22 = .ok (.getfield 16, 3) := by decide +kernel
theorem dX6_rule_25 : decode cX6_rule 25 = .ok (.iload_n 1, 1) := by decide +kernel
theorem dX6_rule_26 : decode cX6_rule 26 = .ok (.iload_n 2, 1) := by decide +kernel
theorem dX6_rule_27 : decode cX6_rule 27 = .ok (.iload_n 3, 1) := by decide +kernel
theorem dX6_rule_28 : decode cX6_rule 28 = .ok (.invokestatic 160, 3) := by decide +kernel
theorem dX6_rule_31 : decode cX6_rule 31 = .ok (.aload_n 0, 1) := by decide +kernel
theorem dX6_rule_32 : decode cX6_rule 32 = .ok (.aload_n 0, 1) := by decide +kernel
theorem dX6_rule_33 : decode cX6_rule 33 = .ok (.getfield 16, 3) := by decide +kernel
theorem dX6_rule_36 : decode cX6_rule 36 = .ok (.invokevirtual 132, 3) := by decide +kernel
theorem dX6_rule_39 : decode cX6_rule 39 = .ok (.invokestatic 139, 3) := by decide +kernel
theorem dX6_rule_42 : decode cX6_rule 42 = .ok (.ireturn, 1) := by decide +kernel
theorem dX6_table_0 : decode cX6_table 0 = .ok (.aload_n 0, 1) := by decide +kernel
theorem dX6_table_1 : decode cX6_table 1 = .ok (.iconst 0, 1) := by decide +kernel
theorem dX6_table_2 : decode cX6_table 2 = .ok (.putfield 45, 3) := by decide +kernel
theorem dX6_table_5 : decode cX6_table 5 = .ok (.iload_n 1, 1) := by decide +kernel
theorem dX6_table_6 : decode cX6_table 6 = .ok (.i2l, 1) := by decide +kernel
theorem dX6_table_7 : decode cX6_table 7 = .ok (.lconst 0, 1) := by decide +kernel
theorem dX6_table_8 : decode cX6_table 8 = .ok (.ldc2_w 66, 3) := by decide +kernel
theorem dX6_table_11 : decode cX6_table 11 = .ok (.invokestatic 57, 3) := by decide +kernel
theorem dX6_table_14 : decode cX6_table 14 = .ok (.ifCond .eq 15, 3) := by decide +kernel
theorem dX6_table_17 : decode cX6_table 17 = .ok (.iload_n 2, 1) := by decide +kernel
theorem dX6_table_18 : decode cX6_table 18 = .ok (.i2l, 1) := by decide +kernel
theorem dX6_table_19 : decode cX6_table 19 = .ok (.lconst 0, 1) := by decide +kernel
theorem dX6_table_20 : decode cX6_table 20 = .ok (.ldc2_w 66, 3) := by decide +kernel
theorem dX6_table_23 : decode cX6_table 23 = .ok (.invokestatic 57, 3) := by decide +kernel
theorem dX6_table_26 : decode cX6_table 26 = .ok (.ifCond .ne 6, 3) := by decide +kernel
theorem dX6_table_29 : decode cX6_table 29 = .ok (.bipush (-2), 2) := by decide +kernel
theorem dX6_table_31 : decode cX6_table 31 = .ok (.ireturn, 1) := by decide +kernel
theorem dX6_table_32 : decode cX6_table 32 = .ok (.aload_n 0, 1) := by decide +kernel
theorem dX6_table_33 : decode cX6_table 33 = .ok (.invokevirtual 142, 3) := by decide +kernel
theorem dX6_table_36 : decode cX6_table 36 = .ok (.aload_n 0, 1) := by decide +kernel
theorem dX6_table_37 : decode cX6_table 37 = .ok (.getfield 16, 3) := by decide +kernel
theorem dX6_table_40 : decode cX6_table 40 = .ok (.bipush 55, 2) := by decide +kernel
theorem dX6_table_42 : decode cX6_table 42 = .ok (.iload_n 1, 1) := by decide +kernel
theorem dX6_table_43 : decode cX6_table 43 = .ok (.iadd, 1) := by decide +kernel
theorem dX6_table_44 : decode cX6_table 44 = .ok (.iaload, 1) := by decide +kernel
theorem dX6_table_45 : decode cX6_table 45 = .ok (.istore_n 3, 1) := by decide +kernel
theorem dX6_table_46 : decode cX6_table 46 = .ok (.aload_n 0, 1) := by decide +kernel
theorem dX6_table_47 : decode cX6_table 47 = .ok (.getfield 16, 3) := by decide +kernel
theorem dX6_table_50 : decode cX6_table 50 = .ok (.bipush 55, 2) := by decide +kernel
theorem dX6_table_52 : decode cX6_table 52 = .ok (.iload_n 1, 1) := by decide +kernel
theorem dX6_table_53 : decode cX6_table 53 = .ok (.iadd, 1) := by decide +kernel
theorem dX6_table_54 : decode cX6_table 54 = .ok (.iload_n 2, 1) := by decide +kernel
theorem dX6_table_55 : decode cX6_table 55 = .ok (.iastore, 1) := by decide +kernel
theorem dX6_table_56 : decode cX6_table 56 = .ok (.iload_n 3, 1) := by decide +kernel
theorem dX6_table_57 : decode cX6_table 57 = .ok (.ireturn, 1) := by decide +kernel
theorem dX6_isLie_0 : decode cX6_isLie 0 = .ok (.iload_n 0, 1) := by decide +kernel
theorem dX6_isLie_1 : decode cX6_isLie 1 = .ok (.i2l, 1) := by decide +kernel
theorem dX6_isLie_2 : decode cX6_isLie 2 = .ok (.ldc2_w 164, 3) := by decide +kernel
theorem dX6_isLie_5 : decode cX6_isLie 5 = .ok (.lconst 1, 1) := by decide +kernel
theorem dX6_isLie_6 : decode cX6_isLie 6 = .ok (.invokestatic 57, 3) := by decide +kernel
theorem dX6_isLie_9 : decode cX6_isLie 9 = .ok (.ifCond .eq 19, 3) := by decide +kernel
theorem dX6_isLie_12 : decode cX6_isLie 12 = .ok (.iload_n 1, 1) := by decide +kernel
theorem dX6_isLie_13 : decode cX6_isLie 13 = .ok (.i2l, 1) := by decide +kernel
theorem dX6_isLie_14 : decode cX6_isLie 14 = .ok (.ldc2_w 164, 3) := by decide +kernel
theorem dX6_isLie_17 : decode cX6_isLie 17 = .ok (.lconst 1, 1) := by decide +kernel
theorem dX6_isLie_18 : decode cX6_isLie 18 = .ok (.invokestatic 57, 3) := by decide +kernel
theorem dX6_isLie_21 : decode cX6_isLie 21 = .ok (.ifCond .eq 7, 3) := by decide +kernel
theorem dX6_isLie_24 : decode cX6_isLie 24 = .ok (.iconst 1, 1) := by decide +kernel
theorem dX6_isLie_25 : decode cX6_isLie 25 = .ok (.goto 4, 3) := by decide +kernel
theorem dX6_isLie_28 : decode cX6_isLie 28 = .ok (.iconst 0, 1) := by decide +kernel
theorem dX6_isLie_29 : decode cX6_isLie 29 = .ok (.ireturn, 1) := by decide +kernel
theorem dX6_lay_0 : decode cX6_lay 0 = .ok (.aload_n 0, 1) := by decide +kernel
theorem dX6_lay_1 : decode cX6_lay 1 = .ok (.iconst 0, 1) := by decide +kernel
theorem dX6_lay_2 : decode cX6_lay 2 = .ok (.putfield 45, 3) := by decide +kernel
theorem dX6_lay_5 : decode cX6_lay 5 = .ok (.iload_n 1, 1) := by decide +kernel
theorem dX6_lay_6 : decode cX6_lay 6 = .ok (.iload_n 2, 1) := by decide +kernel
theorem dX6_lay_7 : decode cX6_lay 7 = .ok (.invokestatic 166, 3) := by decide +kernel
theorem dX6_lay_10 : decode cX6_lay 10 = .ok (.ifCond .ne 6, 3) := by decide +kernel
theorem dX6_lay_13 : decode cX6_lay 13 = .ok (.bipush (-2), 2) := by decide +kernel
theorem dX6_lay_15 : decode cX6_lay 15 = .ok (.ireturn, 1) := by decide +kernel
theorem dX6_lay_16 : decode cX6_lay 16 = .ok (.aload_n 0, 1) := by decide +kernel
theorem dX6_lay_17 : decode cX6_lay 17 = .ok (.invokevirtual 142, 3) := by decide +kernel
theorem dX6_lay_20 : decode cX6_lay 20 = .ok (.aload_n 0, 1) := by decide +kernel
theorem dX6_lay_21 : decode cX6_lay 21 = .ok (.getfield 16, 3) := by decide +kernel
theorem dX6_lay_24 : decode cX6_lay 24 = .ok (.bipush 65, 2) := by decide +kernel
theorem dX6_lay_26 : decode cX6_lay 26 = .ok (.iload_n 1, 1) := by decide +kernel
theorem dX6_lay_27 : decode cX6_lay 27 = .ok (.iastore, 1) := by decide +kernel
theorem dX6_lay_28 : decode cX6_lay 28 = .ok (.aload_n 0, 1) := by decide +kernel
theorem dX6_lay_29 : decode cX6_lay 29 = .ok (.getfield 16, 3) := by decide +kernel
theorem dX6_lay_32 : decode cX6_lay 32 = .ok (.bipush 66, 2) := by decide +kernel
theorem dX6_lay_34 : decode cX6_lay 34 = .ok (.iload_n 2, 1) := by decide +kernel
theorem dX6_lay_35 : decode cX6_lay 35 = .ok (.iastore, 1) := by decide +kernel
theorem dX6_lay_36 : decode cX6_lay 36 = .ok (.aload_n 0, 1) := by decide +kernel
theorem dX6_lay_37 : decode cX6_lay 37 = .ok (.aload_n 0, 1) := by decide +kernel
theorem dX6_lay_38 : decode cX6_lay 38 = .ok (.getfield 16, 3) := by decide +kernel
theorem dX6_lay_41 : decode cX6_lay 41 = .ok (.invokevirtual 132, 3) := by decide +kernel
theorem dX6_lay_44 : decode cX6_lay 44 = .ok (.invokestatic 139, 3) := by decide +kernel
theorem dX6_lay_47 : decode cX6_lay 47 = .ok (.ireturn, 1) := by decide +kernel
theorem dX6_undo_0 : decode cX6_undo 0 = .ok (.aload_n 0, 1) := by decide +kernel
theorem dX6_undo_1 : decode cX6_undo 1 = .ok (.iconst 0, 1) := by decide +kernel
theorem dX6_undo_2 : decode cX6_undo 2 = .ok (.putfield 45, 3) := by decide +kernel
theorem dX6_undo_5 : decode cX6_undo 5 = .ok (.aload_n 0, 1) := by decide +kernel
theorem dX6_undo_6 : decode cX6_undo 6 = .ok (.getfield 78, 3) := by decide +kernel
theorem dX6_undo_9 : decode cX6_undo 9 = .ok (.ifCond .ne 6, 3) := by decide +kernel
theorem dX6_undo_12 : decode cX6_undo 12 = .ok (.bipush (-3), 2) := by decide +kernel
theorem dX6_undo_14 : decode cX6_undo 14 = .ok (.ireturn, 1) := by decide +kernel
theorem dX6_undo_15 : decode cX6_undo 15 = .ok (.aload_n 0, 1) := by decide +kernel
theorem dX6_undo_16 : decode cX6_undo 16 = .ok (.dup, 1) := by decide +kernel
theorem dX6_undo_17 : decode cX6_undo 17 = .ok (.getfield 78, 3) := by decide +kernel
theorem dX6_undo_20 : decode cX6_undo 20 = .ok (.iconst 1, 1) := by decide +kernel
theorem dX6_undo_21 : decode cX6_undo 21 = .ok (.isub, 1) := by decide +kernel
theorem dX6_undo_22 : decode cX6_undo 22 = .ok (.putfield 78, 3) := by decide +kernel
theorem dX6_undo_25 : decode cX6_undo 25 = .ok (.iconst 0, 1) := by decide +kernel
theorem dX6_undo_26 : decode cX6_undo 26 = .ok (.istore_n 1, 1) := by decide +kernel
theorem dX6_undo_27 : decode cX6_undo 27 = .ok (.iload_n 1, 1) := by decide +kernel
theorem dX6_undo_28 : decode cX6_undo 28 = .ok (.bipush 67, 2) := by decide +kernel
theorem dX6_undo_30 : decode cX6_undo 30 = .ok (.if_icmp .ge 29, 3) := by decide +kernel
theorem dX6_undo_33 : decode cX6_undo 33 = .ok (.aload_n 0, 1) := by decide +kernel
theorem dX6_undo_34 : decode cX6_undo 34 = .ok (.getfield 16, 3) := by decide +kernel
theorem dX6_undo_37 : decode cX6_undo 37 = .ok (.iload_n 1, 1) := by decide +kernel
theorem dX6_undo_38 : decode cX6_undo 38 = .ok (.aload_n 0, 1) := by decide +kernel
theorem dX6_undo_39 : decode cX6_undo 39 = .ok (.getfield 22, 3) := by decide +kernel
theorem dX6_undo_42 : decode cX6_undo 42 = .ok (.bipush 67, 2) := by decide +kernel
theorem dX6_undo_44 : decode cX6_undo 44 = .ok (.aload_n 0, 1) := by decide +kernel
theorem dX6_undo_45 : decode cX6_undo 45 = .ok (.getfield 78, 3) := by decide +kernel
theorem dX6_undo_48 : decode cX6_undo 48 = .ok (.imul, 1) := by decide +kernel
theorem dX6_undo_49 : decode cX6_undo 49 = .ok (.iload_n 1, 1) := by decide +kernel
theorem dX6_undo_50 : decode cX6_undo 50 = .ok (.iadd, 1) := by decide +kernel
theorem dX6_undo_51 : decode cX6_undo 51 = .ok (.iaload, 1) := by decide +kernel
theorem dX6_undo_52 : decode cX6_undo 52 = .ok (.iastore, 1) := by decide +kernel
theorem dX6_undo_53 : decode cX6_undo 53 = .ok (.iinc 1 1, 3) := by decide +kernel
theorem dX6_undo_56 : decode cX6_undo 56 = .ok (.goto (-29), 3) := by decide +kernel
theorem dX6_undo_59 : decode cX6_undo 59 = .ok (.aload_n 0, 1) := by decide +kernel
theorem dX6_undo_60 : decode cX6_undo 60 = .ok (.getfield 78, 3) := by decide +kernel
theorem dX6_undo_63 : decode cX6_undo 63 = .ok (.ireturn, 1) := by decide +kernel
theorem dX6_layFit_0 : decode cX6_layFit 0 = .ok (.aload_n 0, 1) := by decide +kernel
theorem dX6_layFit_1 : decode cX6_layFit 1 = .ok (.iconst 0, 1) := by decide +kernel
theorem dX6_layFit_2 : decode cX6_layFit 2 = .ok (.putfield 169, 3) := by decide +kernel
theorem dX6_layFit_5 : decode cX6_layFit 5 = .ok (.aload_n 0, 1) := by decide +kernel
theorem dX6_layFit_6 : decode cX6_layFit 6 = .ok (.iconst 0, 1) := by decide +kernel
theorem dX6_layFit_7 : decode cX6_layFit 7 = .ok (.putfield 172, 3) := by decide +kernel
theorem dX6_layFit_10 : decode cX6_layFit 10 = .ok (.iconst 0, 1) := by decide +kernel
theorem dX6_layFit_11 : decode cX6_layFit 11 = .ok (.istore_n 3, 1) := by decide +kernel
theorem dX6_layFit_12 : decode cX6_layFit 12 = .ok (.iload_n 3, 1) := by decide +kernel
theorem dX6_layFit_13 : decode cX6_layFit 13 = .ok (.aload_n 0, 1) := by decide +kernel
theorem dX6_layFit_14 : decode cX6_layFit 14 = .ok (.getfield 16, 3) := by decide +kernel
theorem dX6_layFit_17 : decode cX6_layFit 17 = .ok (.invokestatic 53, 3) := by decide +kernel
theorem dX6_layFit_20 : decode cX6_layFit 20 = .ok (.if_icmp .ge 73, 3) := by decide +kernel
theorem dX6_layFit_23 : decode cX6_layFit 23 = .ok (.aload_n 0, 1) := by decide +kernel
theorem dX6_layFit_24 : decode cX6_layFit 24 = .ok (.getfield 16, 3) := by decide +kernel
theorem dX6_layFit_27 : decode cX6_layFit 27 = .ok (.iload_n 3, 1) := by decide +kernel
theorem dX6_layFit_28 : decode cX6_layFit 28 = .ok (.iload_n 1, 1) := by decide +kernel
theorem dX6_layFit_29 : decode cX6_layFit 29 = .ok (.iload_n 2, 1) := by decide +kernel
theorem dX6_layFit_30 : decode cX6_layFit 30 = .ok (.invokestatic 101, 3) := by decide +kernel
theorem dX6_layFit_33 : decode cX6_layFit 33 = .ok (.istore 4, 2) := by decide +kernel
theorem dX6_layFit_35 : decode cX6_layFit 35 = .ok (.iload 4, 2) := by decide +kernel
theorem dX6_layFit_37 : decode cX6_layFit 37 = .ok (.bipush (-9), 2) := by decide +kernel
theorem dX6_layFit_39 : decode cX6_layFit 39 = .ok (.if_icmp .eq 48, 3) := by decide +kernel
theorem dX6_layFit_42 : decode cX6_layFit 42 = .ok (.aload_n 0, 1) := by decide +kernel
theorem dX6_layFit_43 : decode cX6_layFit 43 = .ok (.getfield 16, 3) := by decide +kernel
theorem dX6_layFit_46 : decode cX6_layFit 46 = .ok (.iconst 2, 1) := by decide +kernel
theorem dX6_layFit_47 : decode cX6_layFit 47 = .ok (.iload_n 3, 1) := by decide +kernel
theorem dX6_layFit_48 : decode cX6_layFit 48 = .ok (.iadd, 1) := by decide +kernel
theorem dX6_layFit_49 : decode cX6_layFit 49 = .ok (.iaload, 1) := by decide +kernel
theorem dX6_layFit_50 : decode cX6_layFit 50 = .ok (.aload_n 0, 1) := by decide +kernel
theorem dX6_layFit_51 : decode cX6_layFit 51 = .ok (.getfield 16, 3) := by decide +kernel
theorem dX6_layFit_54 : decode cX6_layFit 54 = .ok (.bipush 27, 2) := by decide +kernel
theorem dX6_layFit_56 : decode cX6_layFit 56 = .ok (.iload 4, 2) := by decide +kernel
theorem dX6_layFit_58 : decode cX6_layFit 58 = .ok (.iadd, 1) := by decide +kernel
theorem dX6_layFit_59 : decode cX6_layFit 59 = .ok (.iaload, 1) := by decide +kernel
theorem dX6_layFit_60 : decode cX6_layFit 60 = .ok (.isub, 1) := by decide +kernel
theorem dX6_layFit_61 : decode cX6_layFit 61 = .ok (.istore 5, 2) := by decide +kernel
theorem dX6_layFit_63 : decode cX6_layFit 63 = .ok (.aload_n 0, 1) := by decide +kernel
theorem dX6_layFit_64 : decode cX6_layFit 64 = .ok (.dup, 1) := by decide +kernel
theorem dX6_layFit_65 : decode cX6_layFit 65 = .ok (.getfield 169, 3) := by decide +kernel
theorem dX6_layFit_68 : decode cX6_layFit 68 = .ok (.iload 5, 2) := by decide +kernel
theorem dX6_layFit_70 : decode cX6_layFit 70 = .ok (.iload 5, 2) := by decide +kernel
theorem dX6_layFit_72 : decode cX6_layFit 72 = .ok (.imul, 1) := by decide +kernel
theorem dX6_layFit_73 : decode cX6_layFit 73 = .ok (.iadd, 1) := by decide +kernel
theorem dX6_layFit_74 : decode cX6_layFit 74 = .ok (.putfield 169, 3) := by decide +kernel
theorem dX6_layFit_77 : decode cX6_layFit 77 = .ok (.aload_n 0, 1) := by decide +kernel
theorem dX6_layFit_78 : decode cX6_layFit 78 = .ok (.dup, 1) := by decide +kernel
theorem dX6_layFit_79 : decode cX6_layFit 79 = .ok (.getfield 172, 3) := by decide +kernel
theorem dX6_layFit_82 : decode cX6_layFit 82 = .ok (.iconst 1, 1) := by decide +kernel
theorem dX6_layFit_83 : decode cX6_layFit 83 = .ok (.iadd, 1) := by decide +kernel
theorem dX6_layFit_84 : decode cX6_layFit 84 = .ok (.putfield 172, 3) := by decide +kernel
theorem dX6_layFit_87 : decode cX6_layFit 87 = .ok (.iinc 3 1, 3) := by decide +kernel
theorem dX6_layFit_90 : decode cX6_layFit 90 = .ok (.goto (-78), 3) := by decide +kernel
theorem dX6_layFit_93 : decode cX6_layFit 93 = .ok (.return_, 1) := by decide +kernel
theorem dX6_fit_0 : decode cX6_fit 0 = .ok (.aload_n 0, 1) := by decide +kernel
theorem dX6_fit_1 : decode cX6_fit 1 = .ok (.iconst 0, 1) := by decide +kernel
theorem dX6_fit_2 : decode cX6_fit 2 = .ok (.putfield 45, 3) := by decide +kernel
theorem dX6_fit_5 : decode cX6_fit 5 = .ok (.iload_n 1, 1) := by decide +kernel
theorem dX6_fit_6 : decode cX6_fit 6 = .ok (.iload_n 2, 1) := by decide +kernel
theorem dX6_fit_7 : decode cX6_fit 7 = .ok (.invokestatic 166, 3) := by decide +kernel
theorem dX6_fit_10 : decode cX6_fit 10 = .ok (.ifCond .ne 6, 3) := by decide +kernel
theorem dX6_fit_13 : decode cX6_fit 13 = .ok (.bipush (-2), 2) := by decide +kernel
theorem dX6_fit_15 : decode cX6_fit 15 = .ok (.ireturn, 1) := by decide +kernel
theorem dX6_fit_16 : decode cX6_fit 16 = .ok (.aload_n 0, 1) := by decide +kernel
theorem dX6_fit_17 : decode cX6_fit 17 = .ok (.iload_n 1, 1) := by decide +kernel
theorem dX6_fit_18 : decode cX6_fit 18 = .ok (.iload_n 2, 1) := by decide +kernel
theorem dX6_fit_19 : decode cX6_fit 19 = .ok (.invokevirtual 175, 3) := by decide +kernel
theorem dX6_fit_22 : decode cX6_fit 22 = .ok (.aload_n 0, 1) := by decide +kernel
theorem dX6_fit_23 : decode cX6_fit 23 = .ok (.getfield 172, 3) := by decide +kernel
theorem dX6_fit_26 : decode cX6_fit 26 = .ok (.ifCond .ne 8, 3) := by decide +kernel
theorem dX6_fit_29 : decode cX6_fit 29 = .ok (.bipush (-9), 2) := by decide +kernel
theorem dX6_fit_31 : decode cX6_fit 31 = .ok (.goto 15, 3) := by decide +kernel
theorem dX6_fit_34 : decode cX6_fit 34 = .ok (.aload_n 0, 1) := by decide +kernel
theorem dX6_fit_35 : decode cX6_fit 35 = .ok (.getfield 169, 3) := by decide +kernel
theorem dX6_fit_38 : decode cX6_fit 38 = .ok (.aload_n 0, 1) := by decide +kernel
theorem dX6_fit_39 : decode cX6_fit 39 = .ok (.getfield 172, 3) := by decide +kernel
theorem dX6_fit_42 : decode cX6_fit 42 = .ok (.iload_n 3, 1) := by decide +kernel
theorem dX6_fit_43 : decode cX6_fit 43 = .ok (.invokestatic 122, 3) := by decide +kernel
theorem dX6_fit_46 : decode cX6_fit 46 = .ok (.ireturn, 1) := by decide +kernel
theorem dX6_bestLie_0 : decode cX6_bestLie 0 = .ok (.bipush (-9), 2) := by decide +kernel
theorem dX6_bestLie_2 : decode cX6_bestLie 2 = .ok (.istore_n 1, 1) := by decide +kernel
theorem dX6_bestLie_3 : decode cX6_bestLie 3 = .ok (.iconst 0, 1) := by decide +kernel
theorem dX6_bestLie_4 : decode cX6_bestLie 4 = .ok (.istore_n 2, 1) := by decide +kernel
theorem dX6_bestLie_5 : decode cX6_bestLie 5 = .ok (.iconst 1, 1) := by decide +kernel
theorem dX6_bestLie_6 : decode cX6_bestLie 6 = .ok (.istore_n 3, 1) := by decide +kernel
theorem dX6_bestLie_7 : decode cX6_bestLie 7 = .ok (.iconst 0, 1) := by decide +kernel
theorem dX6_bestLie_8 : decode cX6_bestLie 8 = .ok (.istore 4, 2) := by decide +kernel
theorem dX6_bestLie_10 : decode cX6_bestLie 10 = .ok (.iload 4, 2) := by decide +kernel
theorem dX6_bestLie_12 : decode cX6_bestLie 12 = .ok (.bipush 9, 2) := by decide +kernel
theorem dX6_bestLie_14 : decode cX6_bestLie 14 = .ok (.if_icmp .ge 76, 3) := by decide +kernel
theorem dX6_bestLie_17 : decode cX6_bestLie 17 = .ok (.aload_n 0, 1) := by decide +kernel
theorem dX6_bestLie_18 : decode cX6_bestLie 18 = .ok (.iload 4, 2) := by decide +kernel
theorem dX6_bestLie_20 : decode cX6_bestLie 20 = .ok (.iconst 3, 1) := by decide +kernel
theorem dX6_bestLie_21 : decode cX6_bestLie 21 = .ok (.idiv, 1) := by decide +kernel
theorem dX6_bestLie_22 : decode cX6_bestLie 22 = .ok (.iconst 1, 1) := by decide +kernel
theorem dX6_bestLie_23 : decode cX6_bestLie 23 = .ok (.isub, 1) := by decide +kernel
theorem dX6_bestLie_24 : decode cX6_bestLie 24 = .ok (.iload 4, 2) := by decide +kernel
theorem dX6_bestLie_26 : decode cX6_bestLie 26 = .ok (.iconst 3, 1) := by decide +kernel
theorem dX6_bestLie_27 : decode cX6_bestLie 27 = .ok (.irem, 1) := by decide +kernel
theorem dX6_bestLie_28 : decode cX6_bestLie 28 = .ok (.iconst 1, 1) := by decide +kernel
theorem dX6_bestLie_29 : decode cX6_bestLie 29 = .ok (.isub, 1) := by decide +kernel
theorem dX6_bestLie_30 : decode cX6_bestLie 30 = .ok (.invokevirtual 175, 3) := by decide +kernel
theorem dX6_bestLie_33 : decode cX6_bestLie 33 = .ok (.aload_n 0, 1) := by decide +kernel
theorem dX6_bestLie_34 : decode cX6_bestLie 34 = .ok (.getfield 172, 3) := by decide +kernel
theorem dX6_bestLie_37 : decode cX6_bestLie 37 = .ok (.ifCond .le 47, 3) := by decide +kernel
theorem dX6_bestLie_40 : decode cX6_bestLie 40 = .ok (.iload_n 1, 1) := by decide +kernel
theorem dX6_bestLie_41 : decode cX6_bestLie 41 = .ok (.bipush (-9), 2) := by decide +kernel
theorem dX6_bestLie_43 : decode cX6_bestLie 43 = .ok (.if_icmp .eq 18, 3) := by decide +kernel
theorem dX6_bestLie_46 : decode cX6_bestLie 46 = .ok (.aload_n 0, 1) := by decide +kernel
theorem dX6_bestLie_47 : decode cX6_bestLie 47 = .ok (.getfield 169, 3) := by decide +kernel
theorem dX6_bestLie_50 : decode cX6_bestLie 50 = .ok (.iload_n 3, 1) := by decide +kernel
theorem dX6_bestLie_51 : decode cX6_bestLie 51 = .ok (.imul, 1) := by decide +kernel
theorem dX6_bestLie_52 : decode cX6_bestLie 52 = .ok (.iload_n 2, 1) := by decide +kernel
theorem dX6_bestLie_53 : decode cX6_bestLie 53 = .ok (.aload_n 0, 1) := by decide +kernel
theorem dX6_bestLie_54 : decode cX6_bestLie 54 = .ok (.getfield 172, 3) := by decide +kernel
theorem dX6_bestLie_57 : decode cX6_bestLie 57 = .ok (.imul, 1) := by decide +kernel
theorem dX6_bestLie_58 : decode cX6_bestLie 58 = .ok (.if_icmp .ge 26, 3) := by decide +kernel
theorem dX6_bestLie_61 : decode cX6_bestLie 61 = .ok (.bipush 10, 2) := by decide +kernel
theorem dX6_bestLie_63 : decode cX6_bestLie 63 = .ok (.iload 4, 2) := by decide +kernel
theorem dX6_bestLie_65 : decode cX6_bestLie 65 = .ok (.iconst 3, 1) := by decide +kernel
theorem dX6_bestLie_66 : decode cX6_bestLie 66 = .ok (.idiv, 1) := by decide +kernel
theorem dX6_bestLie_67 : decode cX6_bestLie 67 = .ok (.imul, 1) := by decide +kernel
theorem dX6_bestLie_68 : decode cX6_bestLie 68 = .ok (.iload 4, 2) := by decide +kernel
theorem dX6_bestLie_70 : decode cX6_bestLie 70 = .ok (.iconst 3, 1) := by decide +kernel
theorem dX6_bestLie_71 : decode cX6_bestLie 71 = .ok (.irem, 1) := by decide +kernel
theorem dX6_bestLie_72 : decode cX6_bestLie 72 = .ok (.iadd, 1) := by decide +kernel
theorem dX6_bestLie_73 : decode cX6_bestLie 73 = .ok (.istore_n 1, 1) := by decide +kernel
theorem dX6_bestLie_74 : decode cX6_bestLie 74 = .ok (.aload_n 0, 1) := by decide +kernel
theorem dX6_bestLie_75 : decode cX6_bestLie 75 = .ok (.getfield 169, 3) := by decide +kernel
theorem dX6_bestLie_78 : decode cX6_bestLie 78 = .ok (.istore_n 2, 1) := by decide +kernel
theorem dX6_bestLie_79 : decode cX6_bestLie 79 = .ok (.aload_n 0, 1) := by decide +kernel
theorem dX6_bestLie_80 : decode cX6_bestLie 80 = .ok (.getfield 172, 3) := by decide +kernel
theorem dX6_bestLie_83 : decode cX6_bestLie 83 = .ok (.istore_n 3, 1) := by decide +kernel
theorem dX6_bestLie_84 : decode cX6_bestLie 84 = .ok (.iinc 4 1, 3) := by decide +kernel
theorem dX6_bestLie_87 : decode cX6_bestLie 87 = .ok (.goto (-77), 3) := by decide +kernel
theorem dX6_bestLie_90 : decode cX6_bestLie 90 = .ok (.iload_n 1, 1) := by decide +kernel
theorem dX6_bestLie_91 : decode cX6_bestLie 91 = .ok (.ireturn, 1) := by decide +kernel
theorem dX6_begin_0 : decode cX6_begin 0 = .ok (.iconst 0, 1) := by decide +kernel
theorem dX6_begin_1 : decode cX6_begin 1 = .ok (.istore_n 1, 1) := by decide +kernel
theorem dX6_begin_2 : decode cX6_begin 2 = .ok (.iload_n 1, 1) := by decide +kernel
theorem dX6_begin_3 : decode cX6_begin 3 = .ok (.bipush 67, 2) := by decide +kernel
theorem dX6_begin_5 : decode cX6_begin 5 = .ok (.if_icmp .ge 21, 3) := by decide +kernel
theorem dX6_begin_8 : decode cX6_begin 8 = .ok (.aload_n 0, 1) := by decide +kernel
theorem dX6_begin_9 : decode cX6_begin 9 = .ok (.getfield 19, 3) := by decide +kernel
theorem dX6_begin_12 : decode cX6_begin 12 = .ok (.iload_n 1, 1) := by decide +kernel
theorem dX6_begin_13 : decode cX6_begin 13 = .ok (.aload_n 0, 1) := by decide +kernel
theorem dX6_begin_14 : decode cX6_begin 14 = .ok (.getfield 16, 3) := by decide +kernel
theorem dX6_begin_17 : decode cX6_begin 17 = .ok (.iload_n 1, 1) := by decide +kernel
theorem dX6_begin_18 : decode cX6_begin 18 = .ok (.iaload, 1) := by decide +kernel
theorem dX6_begin_19 : decode cX6_begin 19 = .ok (.iastore, 1) := by decide +kernel
theorem dX6_begin_20 : decode cX6_begin 20 = .ok (.iinc 1 1, 3) := by decide +kernel
theorem dX6_begin_23 : decode cX6_begin 23 = .ok (.goto (-21), 3) := by decide +kernel
theorem dX6_begin_26 : decode cX6_begin 26 = .ok (.return_, 1) := by decide +kernel
theorem dX6_inkBy_0 : decode cX6_inkBy 0 = .ok (.aload_n 0, 1) := by decide +kernel
theorem dX6_inkBy_1 : decode cX6_inkBy 1 = .ok (.invokevirtual 179, 3) := by decide +kernel
theorem dX6_inkBy_4 : decode cX6_inkBy 4 = .ok (.aload_n 0, 1) := by decide +kernel
theorem dX6_inkBy_5 : decode cX6_inkBy 5 = .ok (.getfield 19, 3) := by decide +kernel
theorem dX6_inkBy_8 : decode cX6_inkBy 8 = .ok (.bipush 53, 2) := by decide +kernel
theorem dX6_inkBy_10 : decode cX6_inkBy 10 = .ok (.iload_n 1, 1) := by decide +kernel
theorem dX6_inkBy_11 : decode cX6_inkBy 11 = .ok (.bipush 10, 2) := by decide +kernel
theorem dX6_inkBy_13 : decode cX6_inkBy 13 = .ok (.idiv, 1) := by decide +kernel
theorem dX6_inkBy_14 : decode cX6_inkBy 14 = .ok (.iastore, 1) := by decide +kernel
theorem dX6_inkBy_15 : decode cX6_inkBy 15 = .ok (.aload_n 0, 1) := by decide +kernel
theorem dX6_inkBy_16 : decode cX6_inkBy 16 = .ok (.getfield 19, 3) := by decide +kernel
theorem dX6_inkBy_19 : decode cX6_inkBy 19 = .ok (.bipush 54, 2) := by decide +kernel
theorem dX6_inkBy_21 : decode cX6_inkBy 21 = .ok (.iload_n 1, 1) := by decide +kernel
theorem dX6_inkBy_22 : decode cX6_inkBy 22 = .ok (.bipush 10, 2) := by decide +kernel
theorem dX6_inkBy_24 : decode cX6_inkBy 24 = .ok (.irem, 1) := by decide +kernel
theorem dX6_inkBy_25 : decode cX6_inkBy 25 = .ok (.iastore, 1) := by decide +kernel
theorem dX6_inkBy_26 : decode cX6_inkBy 26 = .ok (.aload_n 0, 1) := by decide +kernel
theorem dX6_inkBy_27 : decode cX6_inkBy 27 = .ok (.aload_n 0, 1) := by decide +kernel
theorem dX6_inkBy_28 : decode cX6_inkBy 28 = .ok (.getfield 19, 3) := by decide +kernel
theorem dX6_inkBy_31 : decode cX6_inkBy 31 = .ok (.invokevirtual 132, 3) := by decide +kernel
theorem dX6_inkBy_34 : decode cX6_inkBy 34 = .ok (.ireturn, 1) := by decide +kernel
theorem dX6_bestRule_0 : decode cX6_bestRule 0 = .ok (.bipush (-9), 2) := by decide +kernel
theorem dX6_bestRule_2 : decode cX6_bestRule 2 = .ok (.istore_n 2, 1) := by decide +kernel
theorem dX6_bestRule_3 : decode cX6_bestRule 3 = .ok (.iconst 0, 1) := by decide +kernel
theorem dX6_bestRule_4 : decode cX6_bestRule 4 = .ok (.istore_n 3, 1) := by decide +kernel
theorem dX6_bestRule_5 : decode cX6_bestRule 5 = .ok (.iconst 0, 1) := by decide +kernel
theorem dX6_bestRule_6 : decode cX6_bestRule 6 = .ok (.istore 4, 2) := by decide +kernel
theorem dX6_bestRule_8 : decode cX6_bestRule 8 = .ok (.iload 4, 2) := by decide +kernel
theorem dX6_bestRule_10 : decode cX6_bestRule 10 = .ok (.bipush 30, 2) := by decide +kernel
theorem dX6_bestRule_12 : decode cX6_bestRule 12 = .ok (.if_icmp .ge 103, 3) := by decide +kernel
theorem dX6_bestRule_15 : decode cX6_bestRule 15 = .ok (.aload_n 0, 1) := by decide +kernel
theorem dX6_bestRule_16 : decode cX6_bestRule 16 = .ok (.iload 4, 2) := by decide +kernel
theorem dX6_bestRule_18 : decode cX6_bestRule 18 = .ok (.invokevirtual 182, 3) := by decide +kernel
theorem dX6_bestRule_21 : decode cX6_bestRule 21 = .ok (.invokestatic 139, 3) := by decide +kernel
theorem dX6_bestRule_24 : decode cX6_bestRule 24 = .ok (.istore 5, 2) := by decide +kernel
theorem dX6_bestRule_26 : decode cX6_bestRule 26 = .ok (.iload_n 2, 1) := by decide +kernel
theorem dX6_bestRule_27 : decode cX6_bestRule 27 = .ok (.bipush (-9), 2) := by decide +kernel
theorem dX6_bestRule_29 : decode cX6_bestRule 29 = .ok (.if_icmp .ne 20, 3) := by decide +kernel
theorem dX6_bestRule_32 : decode cX6_bestRule 32 = .ok (.iload_n 1, 1) := by decide +kernel
theorem dX6_bestRule_33 : decode cX6_bestRule 33 = .ok (.ifCond .ne 8, 3) := by decide +kernel
theorem dX6_bestRule_36 : decode cX6_bestRule 36 = .ok (.iload 5, 2) := by decide +kernel
theorem dX6_bestRule_38 : decode cX6_bestRule 38 = .ok (.ifCond .le 7, 3) := by decide +kernel
theorem dX6_bestRule_41 : decode cX6_bestRule 41 = .ok (.iconst 1, 1) := by decide +kernel
theorem dX6_bestRule_42 : decode cX6_bestRule 42 = .ok (.goto 41, 3) := by decide +kernel
theorem dX6_bestRule_45 : decode cX6_bestRule 45 = .ok (.iconst 0, 1) := by decide +kernel
theorem dX6_bestRule_46 : decode cX6_bestRule 46 = .ok (.goto 37, 3) := by decide +kernel
theorem dX6_bestRule_49 : decode cX6_bestRule 49 = .ok (.iload_n 1, 1) := by decide +kernel
theorem dX6_bestRule_50 : decode cX6_bestRule 50 = .ok (.ifCond .eq 17, 3) := by decide +kernel
theorem dX6_bestRule_53 : decode cX6_bestRule 53 = .ok (.iload 5, 2) := by decide +kernel
theorem dX6_bestRule_55 : decode cX6_bestRule 55 = .ok (.iload_n 3, 1) := by decide +kernel
theorem dX6_bestRule_56 : decode cX6_bestRule 56 = .ok (.if_icmp .le 7, 3) := by decide +kernel
theorem dX6_bestRule_59 : decode cX6_bestRule 59 = .ok (.iconst 1, 1) := by decide +kernel
theorem dX6_bestRule_60 : decode cX6_bestRule 60 = .ok (.goto 23, 3) := by decide +kernel
theorem dX6_bestRule_63 : decode cX6_bestRule 63 = .ok (.iconst 0, 1) := by decide +kernel
theorem dX6_bestRule_64 : decode cX6_bestRule 64 = .ok (.goto 19, 3) := by decide +kernel
theorem dX6_bestRule_67 : decode cX6_bestRule 67 = .ok (.iload 5, 2) := by decide +kernel
theorem dX6_bestRule_69 : decode cX6_bestRule 69 = .ok (.ifCond .le 13, 3) := by decide +kernel
theorem dX6_bestRule_72 : decode cX6_bestRule 72 = .ok (.iload 5, 2) := by decide +kernel
theorem dX6_bestRule_74 : decode cX6_bestRule 74 = .ok (.iload_n 3, 1) := by decide +kernel
theorem dX6_bestRule_75 : decode cX6_bestRule 75 = .ok (.if_icmp .ge 7, 3) := by decide +kernel
theorem dX6_bestRule_78 : decode cX6_bestRule 78 = .ok (.iconst 1, 1) := by decide +kernel
theorem dX6_bestRule_79 : decode cX6_bestRule 79 = .ok (.goto 4, 3) := by decide +kernel
theorem dX6_bestRule_82 : decode cX6_bestRule 82 = .ok (.iconst 0, 1) := by decide +kernel
theorem dX6_bestRule_83 : decode cX6_bestRule 83 = .ok (.istore 6, 2) := by decide +kernel
theorem dX6_bestRule_85 : decode cX6_bestRule 85 = .ok (.iload 6, 2) := by decide +kernel
theorem dX6_bestRule_87 : decode cX6_bestRule 87 = .ok (.ifCond .eq 8, 3) := by decide +kernel
theorem dX6_bestRule_90 : decode cX6_bestRule 90 = .ok (.iload 4, 2) := by decide +kernel
theorem dX6_bestRule_92 : decode cX6_bestRule 92 = .ok (.goto 4, 3) := by decide +kernel
theorem dX6_bestRule_95 : decode cX6_bestRule 95 = .ok (.iload_n 2, 1) := by decide +kernel
theorem dX6_bestRule_96 : decode cX6_bestRule 96 = .ok (.istore_n 2, 1) := by decide +kernel
theorem dX6_bestRule_97 : decode cX6_bestRule 97 = .ok (.iload 6, 2) := by decide +kernel
theorem dX6_bestRule_99 : decode cX6_bestRule 99 = .ok (.ifCond .eq 8, 3) := by decide +kernel
theorem dX6_bestRule_102 : decode cX6_bestRule 102 = .ok (.iload 5, 2) := by decide +kernel
theorem dX6_bestRule_104 : decode cX6_bestRule 104 = .ok (.goto 4, 3) := by decide +kernel
theorem dX6_bestRule_107 : decode cX6_bestRule 107 = .ok (.iload_n 3, 1) := by decide +kernel
theorem dX6_bestRule_108 : decode cX6_bestRule 108 = .ok (.istore_n 3, 1) := by decide +kernel
theorem dX6_bestRule_109 : decode cX6_bestRule 109 = .ok (.iinc 4 1, 3) := by decide +kernel
theorem dX6_bestRule_112 : decode cX6_bestRule 112 = .ok (.goto (-104), 3) := by decide +kernel
theorem dX6_bestRule_115 : decode cX6_bestRule 115 = .ok (.iload_n 2, 1) := by decide +kernel
theorem dX6_bestRule_116 : decode cX6_bestRule 116 = .ok (.ireturn, 1) := by decide +kernel
theorem dX6_best_0 : decode cX6_best 0 = .ok (.aload_n 0, 1) := by decide +kernel
theorem dX6_best_1 : decode cX6_best 1 = .ok (.iconst 0, 1) := by decide +kernel
theorem dX6_best_2 : decode cX6_best 2 = .ok (.putfield 45, 3) := by decide +kernel
theorem dX6_best_5 : decode cX6_best 5 = .ok (.iload_n 1, 1) := by decide +kernel
theorem dX6_best_6 : decode cX6_best 6 = .ok (.ifCond .ne 10, 3) := by decide +kernel
theorem dX6_best_9 : decode cX6_best 9 = .ok (.aload_n 0, 1) := by decide +kernel
theorem dX6_best_10 : decode cX6_best 10 = .ok (.invokevirtual 185, 3) := by decide +kernel
theorem dX6_best_13 : decode cX6_best 13 = .ok (.goto 32, 3) := by decide +kernel
theorem dX6_best_16 : decode cX6_best 16 = .ok (.iload_n 1, 1) := by decide +kernel
theorem dX6_best_17 : decode cX6_best 17 = .ok (.iconst 1, 1) := by decide +kernel
theorem dX6_best_18 : decode cX6_best 18 = .ok (.if_icmp .eq 8, 3) := by decide +kernel
theorem dX6_best_21 : decode cX6_best 21 = .ok (.iload_n 1, 1) := by decide +kernel
theorem dX6_best_22 : decode cX6_best 22 = .ok (.iconst 2, 1) := by decide +kernel
theorem dX6_best_23 : decode cX6_best 23 = .ok (.if_icmp .ne 20, 3) := by decide +kernel
theorem dX6_best_26 : decode cX6_best 26 = .ok (.aload_n 0, 1) := by decide +kernel
theorem dX6_best_27 : decode cX6_best 27 = .ok (.iload_n 1, 1) := by decide +kernel
theorem dX6_best_28 : decode cX6_best 28 = .ok (.iconst 1, 1) := by decide +kernel
theorem dX6_best_29 : decode cX6_best 29 = .ok (.if_icmp .ne 7, 3) := by decide +kernel
theorem dX6_best_32 : decode cX6_best 32 = .ok (.iconst 1, 1) := by decide +kernel
theorem dX6_best_33 : decode cX6_best 33 = .ok (.goto 4, 3) := by decide +kernel
theorem dX6_best_36 : decode cX6_best 36 = .ok (.iconst 0, 1) := by decide +kernel
theorem dX6_best_37 : decode cX6_best 37 = .ok (.invokevirtual 188, 3) := by decide +kernel
theorem dX6_best_40 : decode cX6_best 40 = .ok (.goto 5, 3) := by decide +kernel
theorem dX6_best_43 : decode cX6_best 43 = .ok (.bipush (-2), 2) := by decide +kernel
theorem dX6_best_45 : decode cX6_best 45 = .ok (.ireturn, 1) := by decide +kernel
theorem dX6_longPower_0 : decode cX6_longPower 0 = .ok (.lconst 1, 1) := by decide +kernel
theorem dX6_longPower_1 : decode cX6_longPower 1 = .ok (.lstore_n 3, 1) := by decide +kernel
theorem dX6_longPower_2 : decode cX6_longPower 2 = .ok (.iconst 0, 1) := by decide +kernel
theorem dX6_longPower_3 : decode cX6_longPower 3 = .ok (.istore 5, 2) := by decide +kernel
theorem dX6_longPower_5 : decode cX6_longPower 5 = .ok (.iload 5, 2) := by decide +kernel
theorem dX6_longPower_7 : decode cX6_longPower 7 = .ok (.iload_n 2, 1) := by decide +kernel
theorem dX6_longPower_8 : decode cX6_longPower 8 = .ok (.if_icmp .ge 13, 3) := by decide +kernel
theorem dX6_longPower_11 : decode cX6_longPower 11 = .ok (.lload_n 3, 1) := by decide +kernel
theorem dX6_longPower_12 : decode cX6_longPower 12 = .ok (.lload_n 0, 1) := by decide +kernel
theorem dX6_longPower_13 : decode cX6_longPower 13 = .ok (.lmul, 1) := by decide +kernel
theorem dX6_longPower_14 : decode cX6_longPower 14 = .ok (.lstore_n 3, 1) := by decide +kernel
theorem dX6_longPower_15 : decode cX6_longPower 15 = .ok (.iinc 5 1, 3) := by decide +kernel
theorem dX6_longPower_18 : decode cX6_longPower 18 = .ok (.goto (-13), 3) := by decide +kernel
theorem dX6_longPower_21 : decode cX6_longPower 21 = .ok (.lload_n 3, 1) := by decide +kernel
theorem dX6_longPower_22 : decode cX6_longPower 22 = .ok (.lreturn, 1) := by decide +kernel
theorem dX6_puts_0 : decode cX6_puts 0 = .ok (.iload_n 1, 1) := by decide +kernel
theorem dX6_puts_1 : decode cX6_puts 1 = .ok (.ifCond .eq 10, 3) := by decide +kernel
theorem dX6_puts_4 : decode cX6_puts 4 = .ok (.aload_n 0, 1) := by decide +kernel
theorem dX6_puts_5 : decode cX6_puts 5 = .ok (.getfield 19, 3) := by decide +kernel
theorem dX6_puts_8 : decode cX6_puts 8 = .ok (.iload_n 2, 1) := by decide +kernel
theorem dX6_puts_9 : decode cX6_puts 9 = .ok (.iload_n 3, 1) := by decide +kernel
theorem dX6_puts_10 : decode cX6_puts 10 = .ok (.iastore, 1) := by decide +kernel
theorem dX6_puts_11 : decode cX6_puts 11 = .ok (.iload_n 1, 1) := by decide +kernel
theorem dX6_puts_12 : decode cX6_puts 12 = .ok (.ireturn, 1) := by decide +kernel
theorem dX6_lights_0 : decode cX6_lights 0 = .ok (.iload_n 1, 1) := by decide +kernel
theorem dX6_lights_1 : decode cX6_lights 1 = .ok (.i2l, 1) := by decide +kernel
theorem dX6_lights_2 : decode cX6_lights 2 = .ok (.ldc2_w 145, 3) := by decide +kernel
theorem dX6_lights_5 : decode cX6_lights 5 = .ok (.ldc2_w 66, 3) := by decide +kernel
theorem dX6_lights_8 : decode cX6_lights 8 = .ok (.invokestatic 57, 3) := by decide +kernel
theorem dX6_lights_11 : decode cX6_lights 11 = .ok (.ifCond .eq 18, 3) := by decide +kernel
theorem dX6_lights_14 : decode cX6_lights 14 = .ok (.aload_n 0, 1) := by decide +kernel
theorem dX6_lights_15 : decode cX6_lights 15 = .ok (.getfield 19, 3) := by decide +kernel
theorem dX6_lights_18 : decode cX6_lights 18 = .ok (.iload_n 1, 1) := by decide +kernel
theorem dX6_lights_19 : decode cX6_lights 19 = .ok (.invokestatic 147, 3) := by decide +kernel
theorem dX6_lights_22 : decode cX6_lights 22 = .ok (.ifCond .eq 7, 3) := by decide +kernel
theorem dX6_lights_25 : decode cX6_lights 25 = .ok (.iconst 1, 1) := by decide +kernel
theorem dX6_lights_26 : decode cX6_lights 26 = .ok (.goto 4, 3) := by decide +kernel
theorem dX6_lights_29 : decode cX6_lights 29 = .ok (.iconst 0, 1) := by decide +kernel
theorem dX6_lights_30 : decode cX6_lights 30 = .ok (.istore_n 2, 1) := by decide +kernel
theorem dX6_lights_31 : decode cX6_lights 31 = .ok (.iload_n 2, 1) := by decide +kernel
theorem dX6_lights_32 : decode cX6_lights 32 = .ok (.ifCond .eq 11, 3) := by decide +kernel
theorem dX6_lights_35 : decode cX6_lights 35 = .ok (.aload_n 0, 1) := by decide +kernel
theorem dX6_lights_36 : decode cX6_lights 36 = .ok (.getfield 19, 3) := by decide +kernel
theorem dX6_lights_39 : decode cX6_lights 39 = .ok (.iload_n 1, 1) := by decide +kernel
theorem dX6_lights_40 : decode cX6_lights 40 = .ok (.invokestatic 150, 3) := by decide +kernel
theorem dX6_lights_43 : decode cX6_lights 43 = .ok (.iload_n 2, 1) := by decide +kernel
theorem dX6_lights_44 : decode cX6_lights 44 = .ok (.ireturn, 1) := by decide +kernel
theorem dX6_rules_0 : decode cX6_rules 0 = .ok (.iload_n 1, 1) := by decide +kernel
theorem dX6_rules_1 : decode cX6_rules 1 = .ok (.iload_n 2, 1) := by decide +kernel
theorem dX6_rules_2 : decode cX6_rules 2 = .ok (.iload_n 3, 1) := by decide +kernel
theorem dX6_rules_3 : decode cX6_rules 3 = .ok (.invokestatic 156, 3) := by decide +kernel
theorem dX6_rules_6 : decode cX6_rules 6 = .ok (.ifCond .eq 13, 3) := by decide +kernel
theorem dX6_rules_9 : decode cX6_rules 9 = .ok (.aload_n 0, 1) := by decide +kernel
theorem dX6_rules_10 : decode cX6_rules 10 = .ok (.getfield 19, 3) := by decide +kernel
theorem dX6_rules_13 : decode cX6_rules 13 = .ok (.iload_n 1, 1) := by decide +kernel
theorem dX6_rules_14 : decode cX6_rules 14 = .ok (.iload_n 2, 1) := by decide +kernel
theorem dX6_rules_15 : decode cX6_rules 15 = .ok (.iload_n 3, 1) := by decide +kernel
theorem dX6_rules_16 : decode cX6_rules 16 = .ok (.invokestatic 160, 3) := by decide +kernel
theorem dX6_rules_19 : decode cX6_rules 19 = .ok (.iload_n 1, 1) := by decide +kernel
theorem dX6_rules_20 : decode cX6_rules 20 = .ok (.iload_n 2, 1) := by decide +kernel
theorem dX6_rules_21 : decode cX6_rules 21 = .ok (.iload_n 3, 1) := by decide +kernel
theorem dX6_rules_22 : decode cX6_rules 22 = .ok (.invokestatic 156, 3) := by decide +kernel
theorem dX6_rules_25 : decode cX6_rules 25 = .ok (.ireturn, 1) := by decide +kernel
theorem dX6_lies_0 : decode cX6_lies 0 = .ok (.aload_n 0, 1) := by decide +kernel
theorem dX6_lies_1 : decode cX6_lies 1 = .ok (.iload_n 1, 1) := by decide +kernel
theorem dX6_lies_2 : decode cX6_lies 2 = .ok (.iload_n 2, 1) := by decide +kernel
theorem dX6_lies_3 : decode cX6_lies 3 = .ok (.invokestatic 166, 3) := by decide +kernel
theorem dX6_lies_6 : decode cX6_lies 6 = .ok (.bipush 65, 2) := by decide +kernel
theorem dX6_lies_8 : decode cX6_lies 8 = .ok (.iload_n 1, 1) := by decide +kernel
theorem dX6_lies_9 : decode cX6_lies 9 = .ok (.invokevirtual 192, 3) := by decide +kernel
theorem dX6_lies_12 : decode cX6_lies 12 = .ok (.ifCond .eq 18, 3) := by decide +kernel
theorem dX6_lies_15 : decode cX6_lies 15 = .ok (.aload_n 0, 1) := by decide +kernel
theorem dX6_lies_16 : decode cX6_lies 16 = .ok (.iconst 1, 1) := by decide +kernel
theorem dX6_lies_17 : decode cX6_lies 17 = .ok (.bipush 66, 2) := by decide +kernel
theorem dX6_lies_19 : decode cX6_lies 19 = .ok (.iload_n 2, 1) := by decide +kernel
theorem dX6_lies_20 : decode cX6_lies 20 = .ok (.invokevirtual 192, 3) := by decide +kernel
theorem dX6_lies_23 : decode cX6_lies 23 = .ok (.ifCond .eq 7, 3) := by decide +kernel
theorem dX6_lies_26 : decode cX6_lies 26 = .ok (.iconst 1, 1) := by decide +kernel
theorem dX6_lies_27 : decode cX6_lies 27 = .ok (.goto 4, 3) := by decide +kernel
theorem dX6_lies_30 : decode cX6_lies 30 = .ok (.iconst 0, 1) := by decide +kernel
theorem dX6_lies_31 : decode cX6_lies 31 = .ok (.ireturn, 1) := by decide +kernel
theorem dX6_does_0 : decode cX6_does 0 = .ok (.iload_n 1, 1) := by decide +kernel
theorem dX6_does_1 : decode cX6_does 1 = .ok (.sipush 1000, 3) := by decide +kernel
theorem dX6_does_4 : decode cX6_does 4 = .ok (.idiv, 1) := by decide +kernel
theorem dX6_does_5 : decode cX6_does 5 = .ok (.bipush 10, 2) := by decide +kernel
theorem dX6_does_7 : decode cX6_does 7 = .ok (.irem, 1) := by decide +kernel
theorem dX6_does_8 : decode cX6_does 8 = .ok (.istore_n 2, 1) := by decide +kernel
theorem dX6_does_9 : decode cX6_does 9 = .ok (.iload_n 1, 1) := by decide +kernel
theorem dX6_does_10 : decode cX6_does 10 = .ok (.bipush 100, 2) := by decide +kernel
theorem dX6_does_12 : decode cX6_does 12 = .ok (.idiv, 1) := by decide +kernel
theorem dX6_does_13 : decode cX6_does 13 = .ok (.bipush 10, 2) := by decide +kernel
theorem dX6_does_15 : decode cX6_does 15 = .ok (.irem, 1) := by decide +kernel
theorem dX6_does_16 : decode cX6_does 16 = .ok (.istore_n 3, 1) := by decide +kernel
theorem dX6_does_17 : decode cX6_does 17 = .ok (.iload_n 1, 1) := by decide +kernel
theorem dX6_does_18 : decode cX6_does 18 = .ok (.bipush 10, 2) := by decide +kernel
theorem dX6_does_20 : decode cX6_does 20 = .ok (.idiv, 1) := by decide +kernel
theorem dX6_does_21 : decode cX6_does 21 = .ok (.bipush 10, 2) := by decide +kernel
theorem dX6_does_23 : decode cX6_does 23 = .ok (.irem, 1) := by decide +kernel
theorem dX6_does_24 : decode cX6_does 24 = .ok (.istore 4, 2) := by decide +kernel
theorem dX6_does_26 : decode cX6_does 26 = .ok (.iload_n 1, 1) := by decide +kernel
theorem dX6_does_27 : decode cX6_does 27 = .ok (.bipush 10, 2) := by decide +kernel
theorem dX6_does_29 : decode cX6_does 29 = .ok (.irem, 1) := by decide +kernel
theorem dX6_does_30 : decode cX6_does 30 = .ok (.istore 5, 2) := by decide +kernel
theorem dX6_does_32 : decode cX6_does 32 = .ok (.bipush 10, 2) := by decide +kernel
theorem dX6_does_34 : decode cX6_does 34 = .ok (.iload_n 3, 1) := by decide +kernel
theorem dX6_does_35 : decode cX6_does 35 = .ok (.imul, 1) := by decide +kernel
theorem dX6_does_36 : decode cX6_does 36 = .ok (.iload 4, 2) := by decide +kernel
theorem dX6_does_38 : decode cX6_does 38 = .ok (.iadd, 1) := by decide +kernel
theorem dX6_does_39 : decode cX6_does 39 = .ok (.istore 6, 2) := by decide +kernel
theorem dX6_does_41 : decode cX6_does 41 = .ok (.iload 6, 2) := by decide +kernel
theorem dX6_does_43 : decode cX6_does 43 = .ok (.aload_n 0, 1) := by decide +kernel
theorem dX6_does_44 : decode cX6_does 44 = .ok (.getfield 19, 3) := by decide +kernel
theorem dX6_does_47 : decode cX6_does 47 = .ok (.invokestatic 53, 3) := by decide +kernel
theorem dX6_does_50 : decode cX6_does 50 = .ok (.if_icmp .ge 7, 3) := by decide +kernel
theorem dX6_does_53 : decode cX6_does 53 = .ok (.iconst 1, 1) := by decide +kernel
theorem dX6_does_54 : decode cX6_does 54 = .ok (.goto 4, 3) := by decide +kernel
theorem dX6_does_57 : decode cX6_does 57 = .ok (.iconst 0, 1) := by decide +kernel
theorem dX6_does_58 : decode cX6_does 58 = .ok (.istore 7, 2) := by decide +kernel
theorem dX6_does_60 : decode cX6_does 60 = .ok (.iload_n 1, 1) := by decide +kernel
theorem dX6_does_61 : decode cX6_does 61 = .ok (.sipush 10000, 3) := by decide +kernel
theorem dX6_does_64 : decode cX6_does 64 = .ok (.idiv, 1) := by decide +kernel
theorem dX6_does_65 : decode cX6_does 65 = .ok (.tableswitch 284 1 7 #[43, 87, 119, 141, 170, 199, 253], 43) := by decide +kernel
theorem dX6_does_108 : decode cX6_does 108 = .ok (.aload_n 0, 1) := by decide +kernel
theorem dX6_does_109 : decode cX6_does 109 = .ok (.iload_n 2, 1) := by decide +kernel
theorem dX6_does_110 : decode cX6_does 110 = .ok (.iconst 2, 1) := by decide +kernel
theorem dX6_does_111 : decode cX6_does 111 = .ok (.if_icmp .ge 12, 3) := by decide +kernel
theorem dX6_does_114 : decode cX6_does 114 = .ok (.iload 7, 2) := by decide +kernel
theorem dX6_does_116 : decode cX6_does 116 = .ok (.ifCond .eq 7, 3) := by decide +kernel
theorem dX6_does_119 : decode cX6_does 119 = .ok (.iconst 1, 1) := by decide +kernel
theorem dX6_does_120 : decode cX6_does 120 = .ok (.goto 4, 3) := by decide +kernel
theorem dX6_does_123 : decode cX6_does 123 = .ok (.iconst 0, 1) := by decide +kernel
theorem dX6_does_124 : decode cX6_does 124 = .ok (.iload_n 2, 1) := by decide +kernel
theorem dX6_does_125 : decode cX6_does 125 = .ok (.ifCond .ne 7, 3) := by decide +kernel
theorem dX6_does_128 : decode cX6_does 128 = .ok (.iconst 2, 1) := by decide +kernel
theorem dX6_does_129 : decode cX6_does 129 = .ok (.goto 5, 3) := by decide +kernel
theorem dX6_does_132 : decode cX6_does 132 = .ok (.bipush 27, 2) := by decide +kernel
theorem dX6_does_134 : decode cX6_does 134 = .ok (.iload 7, 2) := by decide +kernel
theorem dX6_does_136 : decode cX6_does 136 = .ok (.ifCond .eq 8, 3) := by decide +kernel
theorem dX6_does_139 : decode cX6_does 139 = .ok (.iload 6, 2) := by decide +kernel
theorem dX6_does_141 : decode cX6_does 141 = .ok (.goto 4, 3) := by decide +kernel
theorem dX6_does_144 : decode cX6_does 144 = .ok (.iconst 0, 1) := by decide +kernel
theorem dX6_does_145 : decode cX6_does 145 = .ok (.iadd, 1) := by decide +kernel
theorem dX6_does_146 : decode cX6_does 146 = .ok (.iload 5, 2) := by decide +kernel
theorem dX6_does_148 : decode cX6_does 148 = .ok (.invokevirtual 192, 3) := by decide +kernel
theorem dX6_does_151 : decode cX6_does 151 = .ok (.ireturn, 1) := by decide +kernel
theorem dX6_does_152 : decode cX6_does 152 = .ok (.iload 4, 2) := by decide +kernel
theorem dX6_does_154 : decode cX6_does 154 = .ok (.ifCond .ne 28, 3) := by decide +kernel
theorem dX6_does_157 : decode cX6_does 157 = .ok (.iload 5, 2) := by decide +kernel
theorem dX6_does_159 : decode cX6_does 159 = .ok (.ifCond .ne 23, 3) := by decide +kernel
theorem dX6_does_162 : decode cX6_does 162 = .ok (.aload_n 0, 1) := by decide +kernel
theorem dX6_does_163 : decode cX6_does 163 = .ok (.bipush 10, 2) := by decide +kernel
theorem dX6_does_165 : decode cX6_does 165 = .ok (.iload_n 2, 1) := by decide +kernel
theorem dX6_does_166 : decode cX6_does 166 = .ok (.imul, 1) := by decide +kernel
theorem dX6_does_167 : decode cX6_does 167 = .ok (.iload_n 3, 1) := by decide +kernel
theorem dX6_does_168 : decode cX6_does 168 = .ok (.iadd, 1) := by decide +kernel
theorem dX6_does_169 : decode cX6_does 169 = .ok (.bipush 9, 2) := by decide +kernel
theorem dX6_does_171 : decode cX6_does 171 = .ok (.isub, 1) := by decide +kernel
theorem dX6_does_172 : decode cX6_does 172 = .ok (.invokevirtual 196, 3) := by decide +kernel
theorem dX6_does_175 : decode cX6_does 175 = .ok (.ifCond .eq 7, 3) := by decide +kernel
theorem dX6_does_178 : decode cX6_does 178 = .ok (.iconst 1, 1) := by decide +kernel
theorem dX6_does_179 : decode cX6_does 179 = .ok (.goto 4, 3) := by decide +kernel
theorem dX6_does_182 : decode cX6_does 182 = .ok (.iconst 0, 1) := by decide +kernel
theorem dX6_does_183 : decode cX6_does 183 = .ok (.ireturn, 1) := by decide +kernel
theorem dX6_does_184 : decode cX6_does 184 = .ok (.iload 5, 2) := by decide +kernel
theorem dX6_does_186 : decode cX6_does 186 = .ok (.ifCond .ne 18, 3) := by decide +kernel
theorem dX6_does_189 : decode cX6_does 189 = .ok (.aload_n 0, 1) := by decide +kernel
theorem dX6_does_190 : decode cX6_does 190 = .ok (.iload_n 2, 1) := by decide +kernel
theorem dX6_does_191 : decode cX6_does 191 = .ok (.iload_n 3, 1) := by decide +kernel
theorem dX6_does_192 : decode cX6_does 192 = .ok (.iload 4, 2) := by decide +kernel
theorem dX6_does_194 : decode cX6_does 194 = .ok (.invokevirtual 199, 3) := by decide +kernel
theorem dX6_does_197 : decode cX6_does 197 = .ok (.ifCond .eq 7, 3) := by decide +kernel
theorem dX6_does_200 : decode cX6_does 200 = .ok (.iconst 1, 1) := by decide +kernel
theorem dX6_does_201 : decode cX6_does 201 = .ok (.goto 4, 3) := by decide +kernel
theorem dX6_does_204 : decode cX6_does 204 = .ok (.iconst 0, 1) := by decide +kernel
theorem dX6_does_205 : decode cX6_does 205 = .ok (.ireturn, 1) := by decide +kernel
theorem dX6_does_206 : decode cX6_does 206 = .ok (.iload 4, 2) := by decide +kernel
theorem dX6_does_208 : decode cX6_does 208 = .ok (.ifCond .ne 25, 3) := by decide +kernel
theorem dX6_does_211 : decode cX6_does 211 = .ok (.iload 5, 2) := by decide +kernel
theorem dX6_does_213 : decode cX6_does 213 = .ok (.ifCond .ne 20, 3) := by decide +kernel
theorem dX6_does_216 : decode cX6_does 216 = .ok (.aload_n 0, 1) := by decide +kernel
theorem dX6_does_217 : decode cX6_does 217 = .ok (.iconst 1, 1) := by decide +kernel
theorem dX6_does_218 : decode cX6_does 218 = .ok (.bipush 55, 2) := by decide +kernel
theorem dX6_does_220 : decode cX6_does 220 = .ok (.iload_n 2, 1) := by decide +kernel
theorem dX6_does_221 : decode cX6_does 221 = .ok (.iadd, 1) := by decide +kernel
theorem dX6_does_222 : decode cX6_does 222 = .ok (.iload_n 3, 1) := by decide +kernel
theorem dX6_does_223 : decode cX6_does 223 = .ok (.invokevirtual 192, 3) := by decide +kernel
theorem dX6_does_226 : decode cX6_does 226 = .ok (.ifCond .eq 7, 3) := by decide +kernel
theorem dX6_does_229 : decode cX6_does 229 = .ok (.iconst 1, 1) := by decide +kernel
theorem dX6_does_230 : decode cX6_does 230 = .ok (.goto 4, 3) := by decide +kernel
theorem dX6_does_233 : decode cX6_does 233 = .ok (.iconst 0, 1) := by decide +kernel
theorem dX6_does_234 : decode cX6_does 234 = .ok (.ireturn, 1) := by decide +kernel
theorem dX6_does_235 : decode cX6_does 235 = .ok (.iload 4, 2) := by decide +kernel
theorem dX6_does_237 : decode cX6_does 237 = .ok (.ifCond .ne 25, 3) := by decide +kernel
theorem dX6_does_240 : decode cX6_does 240 = .ok (.iload 5, 2) := by decide +kernel
theorem dX6_does_242 : decode cX6_does 242 = .ok (.ifCond .ne 20, 3) := by decide +kernel
theorem dX6_does_245 : decode cX6_does 245 = .ok (.aload_n 0, 1) := by decide +kernel
theorem dX6_does_246 : decode cX6_does 246 = .ok (.iload_n 2, 1) := by decide +kernel
theorem dX6_does_247 : decode cX6_does 247 = .ok (.iconst 1, 1) := by decide +kernel
theorem dX6_does_248 : decode cX6_does 248 = .ok (.isub, 1) := by decide +kernel
theorem dX6_does_249 : decode cX6_does 249 = .ok (.iload_n 3, 1) := by decide +kernel
theorem dX6_does_250 : decode cX6_does 250 = .ok (.iconst 1, 1) := by decide +kernel
theorem dX6_does_251 : decode cX6_does 251 = .ok (.isub, 1) := by decide +kernel
theorem dX6_does_252 : decode cX6_does 252 = .ok (.invokevirtual 202, 3) := by decide +kernel
theorem dX6_does_255 : decode cX6_does 255 = .ok (.ifCond .eq 7, 3) := by decide +kernel
theorem dX6_does_258 : decode cX6_does 258 = .ok (.iconst 1, 1) := by decide +kernel
theorem dX6_does_259 : decode cX6_does 259 = .ok (.goto 4, 3) := by decide +kernel
theorem dX6_does_262 : decode cX6_does 262 = .ok (.iconst 0, 1) := by decide +kernel
theorem dX6_does_263 : decode cX6_does 263 = .ok (.ireturn, 1) := by decide +kernel
theorem dX6_does_264 : decode cX6_does 264 = .ok (.iload_n 2, 1) := by decide +kernel
theorem dX6_does_265 : decode cX6_does 265 = .ok (.ifCond .ne 51, 3) := by decide +kernel
theorem dX6_does_268 : decode cX6_does 268 = .ok (.iload 7, 2) := by decide +kernel
theorem dX6_does_270 : decode cX6_does 270 = .ok (.ifCond .eq 46, 3) := by decide +kernel
theorem dX6_does_273 : decode cX6_does 273 = .ok (.iload 5, 2) := by decide +kernel
theorem dX6_does_275 : decode cX6_does 275 = .ok (.iconst 2, 1) := by decide +kernel
theorem dX6_does_276 : decode cX6_does 276 = .ok (.if_icmp .ge 40, 3) := by decide +kernel
theorem dX6_does_279 : decode cX6_does 279 = .ok (.aload_n 0, 1) := by decide +kernel
theorem dX6_does_280 : decode cX6_does 280 = .ok (.aload_n 0, 1) := by decide +kernel
theorem dX6_does_281 : decode cX6_does 281 = .ok (.getfield 19, 3) := by decide +kernel
theorem dX6_does_284 : decode cX6_does 284 = .ok (.iload 6, 2) := by decide +kernel
theorem dX6_does_286 : decode cX6_does 286 = .ok (.invokevirtual 105, 3) := by decide +kernel
theorem dX6_does_289 : decode cX6_does 289 = .ok (.iconst 2, 1) := by decide +kernel
theorem dX6_does_290 : decode cX6_does 290 = .ok (.if_icmp .ne 7, 3) := by decide +kernel
theorem dX6_does_293 : decode cX6_does 293 = .ok (.iconst 1, 1) := by decide +kernel
theorem dX6_does_294 : decode cX6_does 294 = .ok (.goto 4, 3) := by decide +kernel
theorem dX6_does_297 : decode cX6_does 297 = .ok (.iconst 0, 1) := by decide +kernel
theorem dX6_does_298 : decode cX6_does 298 = .ok (.iload 5, 2) := by decide +kernel
theorem dX6_does_300 : decode cX6_does 300 = .ok (.iconst 1, 1) := by decide +kernel
theorem dX6_does_301 : decode cX6_does 301 = .ok (.if_icmp .ne 7, 3) := by decide +kernel
theorem dX6_does_304 : decode cX6_does 304 = .ok (.iconst 1, 1) := by decide +kernel
theorem dX6_does_305 : decode cX6_does 305 = .ok (.goto 4, 3) := by decide +kernel
theorem dX6_does_308 : decode cX6_does 308 = .ok (.iconst 0, 1) := by decide +kernel
theorem dX6_does_309 : decode cX6_does 309 = .ok (.if_icmp .ne 7, 3) := by decide +kernel
theorem dX6_does_312 : decode cX6_does 312 = .ok (.iconst 1, 1) := by decide +kernel
theorem dX6_does_313 : decode cX6_does 313 = .ok (.goto 4, 3) := by decide +kernel
theorem dX6_does_316 : decode cX6_does 316 = .ok (.iconst 0, 1) := by decide +kernel
theorem dX6_does_317 : decode cX6_does 317 = .ok (.ireturn, 1) := by decide +kernel
theorem dX6_does_318 : decode cX6_does 318 = .ok (.iload_n 2, 1) := by decide +kernel
theorem dX6_does_319 : decode cX6_does 319 = .ok (.ifCond .ne 28, 3) := by decide +kernel
theorem dX6_does_322 : decode cX6_does 322 = .ok (.iload 5, 2) := by decide +kernel
theorem dX6_does_324 : decode cX6_does 324 = .ok (.ifCond .ne 23, 3) := by decide +kernel
theorem dX6_does_327 : decode cX6_does 327 = .ok (.aload_n 0, 1) := by decide +kernel
theorem dX6_does_328 : decode cX6_does 328 = .ok (.aload_n 0, 1) := by decide +kernel
theorem dX6_does_329 : decode cX6_does 329 = .ok (.getfield 19, 3) := by decide +kernel
theorem dX6_does_332 : decode cX6_does 332 = .ok (.invokevirtual 132, 3) := by decide +kernel
theorem dX6_does_335 : decode cX6_does 335 = .ok (.invokestatic 139, 3) := by decide +kernel
theorem dX6_does_338 : decode cX6_does 338 = .ok (.iload 6, 2) := by decide +kernel
theorem dX6_does_340 : decode cX6_does 340 = .ok (.if_icmp .lt 7, 3) := by decide +kernel
theorem dX6_does_343 : decode cX6_does 343 = .ok (.iconst 1, 1) := by decide +kernel
theorem dX6_does_344 : decode cX6_does 344 = .ok (.goto 4, 3) := by decide +kernel
theorem dX6_does_347 : decode cX6_does 347 = .ok (.iconst 0, 1) := by decide +kernel
theorem dX6_does_348 : decode cX6_does 348 = .ok (.ireturn, 1) := by decide +kernel
theorem dX6_does_349 : decode cX6_does 349 = .ok (.iconst 0, 1) := by decide +kernel
theorem dX6_does_350 : decode cX6_does 350 = .ok (.ireturn, 1) := by decide +kernel
theorem dX6_judge_0 : decode cX6_judge 0 = .ok (.aload_n 0, 1) := by decide +kernel
theorem dX6_judge_1 : decode cX6_judge 1 = .ok (.iconst 0, 1) := by decide +kernel
theorem dX6_judge_2 : decode cX6_judge 2 = .ok (.putfield 45, 3) := by decide +kernel
theorem dX6_judge_5 : decode cX6_judge 5 = .ok (.iload_n 1, 1) := by decide +kernel
theorem dX6_judge_6 : decode cX6_judge 6 = .ok (.i2l, 1) := by decide +kernel
theorem dX6_judge_7 : decode cX6_judge 7 = .ok (.lconst 1, 1) := by decide +kernel
theorem dX6_judge_8 : decode cX6_judge 8 = .ok (.ldc2_w 205, 3) := by decide +kernel
theorem dX6_judge_11 : decode cX6_judge 11 = .ok (.invokestatic 57, 3) := by decide +kernel
theorem dX6_judge_14 : decode cX6_judge 14 = .ok (.ifCond .eq 20, 3) := by decide +kernel
theorem dX6_judge_17 : decode cX6_judge 17 = .ok (.lload_n 2, 1) := by decide +kernel
theorem dX6_judge_18 : decode cX6_judge 18 = .ok (.lconst 0, 1) := by decide +kernel
theorem dX6_judge_19 : decode cX6_judge 19 = .ok (.ldc2_w 207, 3) := by decide +kernel
theorem dX6_judge_22 : decode cX6_judge 22 = .ok (.iload_n 1, 1) := by decide +kernel
theorem dX6_judge_23 : decode cX6_judge 23 = .ok (.invokestatic 209, 3) := by decide +kernel
theorem dX6_judge_26 : decode cX6_judge 26 = .ok (.lconst 1, 1) := by decide +kernel
theorem dX6_judge_27 : decode cX6_judge 27 = .ok (.lsub, 1) := by decide +kernel
theorem dX6_judge_28 : decode cX6_judge 28 = .ok (.invokestatic 57, 3) := by decide +kernel
theorem dX6_judge_31 : decode cX6_judge 31 = .ok (.ifCond .ne 6, 3) := by decide +kernel
theorem dX6_judge_34 : decode cX6_judge 34 = .ok (.bipush (-2), 2) := by decide +kernel
theorem dX6_judge_36 : decode cX6_judge 36 = .ok (.ireturn, 1) := by decide +kernel
theorem dX6_judge_37 : decode cX6_judge 37 = .ok (.aload_n 0, 1) := by decide +kernel
theorem dX6_judge_38 : decode cX6_judge 38 = .ok (.invokevirtual 179, 3) := by decide +kernel
theorem dX6_judge_41 : decode cX6_judge 41 = .ok (.iconst 0, 1) := by decide +kernel
theorem dX6_judge_42 : decode cX6_judge 42 = .ok (.istore 4, 2) := by decide +kernel
theorem dX6_judge_44 : decode cX6_judge 44 = .ok (.iload 4, 2) := by decide +kernel
theorem dX6_judge_46 : decode cX6_judge 46 = .ok (.iload_n 1, 1) := by decide +kernel
theorem dX6_judge_47 : decode cX6_judge 47 = .ok (.if_icmp .ge 38, 3) := by decide +kernel
theorem dX6_judge_50 : decode cX6_judge 50 = .ok (.aload_n 0, 1) := by decide +kernel
theorem dX6_judge_51 : decode cX6_judge 51 = .ok (.lload_n 2, 1) := by decide +kernel
theorem dX6_judge_52 : decode cX6_judge 52 = .ok (.ldc2_w 207, 3) := by decide +kernel
theorem dX6_judge_55 : decode cX6_judge 55 = .ok (.iload_n 1, 1) := by decide +kernel
theorem dX6_judge_56 : decode cX6_judge 56 = .ok (.iconst 1, 1) := by decide +kernel
theorem dX6_judge_57 : decode cX6_judge 57 = .ok (.isub, 1) := by decide +kernel
theorem dX6_judge_58 : decode cX6_judge 58 = .ok (.iload 4, 2) := by decide +kernel
theorem dX6_judge_60 : decode cX6_judge 60 = .ok (.isub, 1) := by decide +kernel
theorem dX6_judge_61 : decode cX6_judge 61 = .ok (.invokestatic 209, 3) := by decide +kernel
theorem dX6_judge_64 : decode cX6_judge 64 = .ok (.ldiv, 1) := by decide +kernel
theorem dX6_judge_65 : decode cX6_judge 65 = .ok (.ldc2_w 207, 3) := by decide +kernel
theorem dX6_judge_68 : decode cX6_judge 68 = .ok (.lrem, 1) := by decide +kernel
theorem dX6_judge_69 : decode cX6_judge 69 = .ok (.l2i, 1) := by decide +kernel
theorem dX6_judge_70 : decode cX6_judge 70 = .ok (.invokevirtual 213, 3) := by decide +kernel
theorem dX6_judge_73 : decode cX6_judge 73 = .ok (.ifCond .ne 6, 3) := by decide +kernel
theorem dX6_judge_76 : decode cX6_judge 76 = .ok (.iload 4, 2) := by decide +kernel
theorem dX6_judge_78 : decode cX6_judge 78 = .ok (.ireturn, 1) := by decide +kernel
theorem dX6_judge_79 : decode cX6_judge 79 = .ok (.iinc 4 1, 3) := by decide +kernel
theorem dX6_judge_82 : decode cX6_judge 82 = .ok (.goto (-38), 3) := by decide +kernel
theorem dX6_judge_85 : decode cX6_judge 85 = .ok (.bipush (-9), 2) := by decide +kernel
theorem dX6_judge_87 : decode cX6_judge 87 = .ok (.ireturn, 1) := by decide +kernel
theorem dX6_orders_0 : decode cX6_orders 0 = .ok (.iconst 1, 1) := by decide +kernel
theorem dX6_orders_1 : decode cX6_orders 1 = .ok (.istore_n 2, 1) := by decide +kernel
theorem dX6_orders_2 : decode cX6_orders 2 = .ok (.iconst 2, 1) := by decide +kernel
theorem dX6_orders_3 : decode cX6_orders 3 = .ok (.istore_n 3, 1) := by decide +kernel
theorem dX6_orders_4 : decode cX6_orders 4 = .ok (.iload_n 3, 1) := by decide +kernel
theorem dX6_orders_5 : decode cX6_orders 5 = .ok (.iload_n 1, 1) := by decide +kernel
theorem dX6_orders_6 : decode cX6_orders 6 = .ok (.if_icmp .gt 13, 3) := by decide +kernel
theorem dX6_orders_9 : decode cX6_orders 9 = .ok (.iload_n 2, 1) := by decide +kernel
theorem dX6_orders_10 : decode cX6_orders 10 = .ok (.iload_n 3, 1) := by decide +kernel
theorem dX6_orders_11 : decode cX6_orders 11 = .ok (.imul, 1) := by decide +kernel
theorem dX6_orders_12 : decode cX6_orders 12 = .ok (.istore_n 2, 1) := by decide +kernel
theorem dX6_orders_13 : decode cX6_orders 13 = .ok (.iinc 3 1, 3) := by decide +kernel
theorem dX6_orders_16 : decode cX6_orders 16 = .ok (.goto (-12), 3) := by decide +kernel
theorem dX6_orders_19 : decode cX6_orders 19 = .ok (.iconst 2, 1) := by decide +kernel
theorem dX6_orders_20 : decode cX6_orders 20 = .ok (.istore_n 3, 1) := by decide +kernel
theorem dX6_orders_21 : decode cX6_orders 21 = .ok (.iload_n 3, 1) := by decide +kernel
theorem dX6_orders_22 : decode cX6_orders 22 = .ok (.iload_n 0, 1) := by decide +kernel
theorem dX6_orders_23 : decode cX6_orders 23 = .ok (.iconst 1, 1) := by decide +kernel
theorem dX6_orders_24 : decode cX6_orders 24 = .ok (.isub, 1) := by decide +kernel
theorem dX6_orders_25 : decode cX6_orders 25 = .ok (.iload_n 1, 1) := by decide +kernel
theorem dX6_orders_26 : decode cX6_orders 26 = .ok (.isub, 1) := by decide +kernel
theorem dX6_orders_27 : decode cX6_orders 27 = .ok (.if_icmp .gt 13, 3) := by decide +kernel
theorem dX6_orders_30 : decode cX6_orders 30 = .ok (.iload_n 2, 1) := by decide +kernel
theorem dX6_orders_31 : decode cX6_orders 31 = .ok (.iload_n 3, 1) := by decide +kernel
theorem dX6_orders_32 : decode cX6_orders 32 = .ok (.imul, 1) := by decide +kernel
theorem dX6_orders_33 : decode cX6_orders 33 = .ok (.istore_n 2, 1) := by decide +kernel
theorem dX6_orders_34 : decode cX6_orders 34 = .ok (.iinc 3 1, 3) := by decide +kernel
theorem dX6_orders_37 : decode cX6_orders 37 = .ok (.goto (-16), 3) := by decide +kernel
theorem dX6_orders_40 : decode cX6_orders 40 = .ok (.iload_n 2, 1) := by decide +kernel
theorem dX6_orders_41 : decode cX6_orders 41 = .ok (.ireturn, 1) := by decide +kernel
theorem dX6_inkOfRows_0 : decode cX6_inkOfRows 0 = .ok (.aload_n 0, 1) := by decide +kernel
theorem dX6_inkOfRows_1 : decode cX6_inkOfRows 1 = .ok (.invokevirtual 179, 3) := by decide +kernel
theorem dX6_inkOfRows_4 : decode cX6_inkOfRows 4 = .ok (.iconst 0, 1) := by decide +kernel
theorem dX6_inkOfRows_5 : decode cX6_inkOfRows 5 = .ok (.istore_n 2, 1) := by decide +kernel
theorem dX6_inkOfRows_6 : decode cX6_inkOfRows 6 = .ok (.iload_n 2, 1) := by decide +kernel
theorem dX6_inkOfRows_7 : decode cX6_inkOfRows 7 = .ok (.aload_n 0, 1) := by decide +kernel
theorem dX6_inkOfRows_8 : decode cX6_inkOfRows 8 = .ok (.getfield 16, 3) := by decide +kernel
theorem dX6_inkOfRows_11 : decode cX6_inkOfRows 11 = .ok (.invokestatic 53, 3) := by decide +kernel
theorem dX6_inkOfRows_14 : decode cX6_inkOfRows 14 = .ok (.if_icmp .ge 45, 3) := by decide +kernel
theorem dX6_inkOfRows_17 : decode cX6_inkOfRows 17 = .ok (.aload_n 0, 1) := by decide +kernel
theorem dX6_inkOfRows_18 : decode cX6_inkOfRows 18 = .ok (.getfield 19, 3) := by decide +kernel
theorem dX6_inkOfRows_21 : decode cX6_inkOfRows 21 = .ok (.iconst 2, 1) := by decide +kernel
theorem dX6_inkOfRows_22 : decode cX6_inkOfRows 22 = .ok (.iload_n 2, 1) := by decide +kernel
theorem dX6_inkOfRows_23 : decode cX6_inkOfRows 23 = .ok (.iadd, 1) := by decide +kernel
theorem dX6_inkOfRows_24 : decode cX6_inkOfRows 24 = .ok (.iload_n 1, 1) := by decide +kernel
theorem dX6_inkOfRows_25 : decode cX6_inkOfRows 25 = .ok (.iload_n 2, 1) := by decide +kernel
theorem dX6_inkOfRows_26 : decode cX6_inkOfRows 26 = .ok (.aload_n 0, 1) := by decide +kernel
theorem dX6_inkOfRows_27 : decode cX6_inkOfRows 27 = .ok (.getfield 16, 3) := by decide +kernel
theorem dX6_inkOfRows_30 : decode cX6_inkOfRows 30 = .ok (.iconst 0, 1) := by decide +kernel
theorem dX6_inkOfRows_31 : decode cX6_inkOfRows 31 = .ok (.iaload, 1) := by decide +kernel
theorem dX6_inkOfRows_32 : decode cX6_inkOfRows 32 = .ok (.idiv, 1) := by decide +kernel
theorem dX6_inkOfRows_33 : decode cX6_inkOfRows 33 = .ok (.invokestatic 126, 3) := by decide +kernel
theorem dX6_inkOfRows_36 : decode cX6_inkOfRows 36 = .ok (.ifCond .eq 14, 3) := by decide +kernel
theorem dX6_inkOfRows_39 : decode cX6_inkOfRows 39 = .ok (.aload_n 0, 1) := by decide +kernel
theorem dX6_inkOfRows_40 : decode cX6_inkOfRows 40 = .ok (.getfield 16, 3) := by decide +kernel
theorem dX6_inkOfRows_43 : decode cX6_inkOfRows 43 = .ok (.iconst 2, 1) := by decide +kernel
theorem dX6_inkOfRows_44 : decode cX6_inkOfRows 44 = .ok (.iload_n 2, 1) := by decide +kernel
theorem dX6_inkOfRows_45 : decode cX6_inkOfRows 45 = .ok (.iadd, 1) := by decide +kernel
theorem dX6_inkOfRows_46 : decode cX6_inkOfRows 46 = .ok (.iaload, 1) := by decide +kernel
theorem dX6_inkOfRows_47 : decode cX6_inkOfRows 47 = .ok (.goto 5, 3) := by decide +kernel
theorem dX6_inkOfRows_50 : decode cX6_inkOfRows 50 = .ok (.bipush 9, 2) := by decide +kernel
theorem dX6_inkOfRows_52 : decode cX6_inkOfRows 52 = .ok (.iastore, 1) := by decide +kernel
theorem dX6_inkOfRows_53 : decode cX6_inkOfRows 53 = .ok (.iinc 2 1, 3) := by decide +kernel
theorem dX6_inkOfRows_56 : decode cX6_inkOfRows 56 = .ok (.goto (-50), 3) := by decide +kernel
theorem dX6_inkOfRows_59 : decode cX6_inkOfRows 59 = .ok (.aload_n 0, 1) := by decide +kernel
theorem dX6_inkOfRows_60 : decode cX6_inkOfRows 60 = .ok (.aload_n 0, 1) := by decide +kernel
theorem dX6_inkOfRows_61 : decode cX6_inkOfRows 61 = .ok (.getfield 19, 3) := by decide +kernel
theorem dX6_inkOfRows_64 : decode cX6_inkOfRows 64 = .ok (.invokevirtual 132, 3) := by decide +kernel
theorem dX6_inkOfRows_67 : decode cX6_inkOfRows 67 = .ok (.invokestatic 139, 3) := by decide +kernel
theorem dX6_inkOfRows_70 : decode cX6_inkOfRows 70 = .ok (.ireturn, 1) := by decide +kernel
theorem dX6_share_0 : decode cX6_share 0 = .ok (.aload_n 0, 1) := by decide +kernel
theorem dX6_share_1 : decode cX6_share 1 = .ok (.iconst 0, 1) := by decide +kernel
theorem dX6_share_2 : decode cX6_share 2 = .ok (.putfield 45, 3) := by decide +kernel
theorem dX6_share_5 : decode cX6_share 5 = .ok (.aload_n 0, 1) := by decide +kernel
theorem dX6_share_6 : decode cX6_share 6 = .ok (.getfield 16, 3) := by decide +kernel
theorem dX6_share_9 : decode cX6_share 9 = .ok (.iconst 1, 1) := by decide +kernel
theorem dX6_share_10 : decode cX6_share 10 = .ok (.iaload, 1) := by decide +kernel
theorem dX6_share_11 : decode cX6_share 11 = .ok (.istore_n 3, 1) := by decide +kernel
theorem dX6_share_12 : decode cX6_share 12 = .ok (.iload_n 1, 1) := by decide +kernel
theorem dX6_share_13 : decode cX6_share 13 = .ok (.i2l, 1) := by decide +kernel
theorem dX6_share_14 : decode cX6_share 14 = .ok (.lconst 0, 1) := by decide +kernel
theorem dX6_share_15 : decode cX6_share 15 = .ok (.iload_n 3, 1) := by decide +kernel
theorem dX6_share_16 : decode cX6_share 16 = .ok (.iconst 1, 1) := by decide +kernel
theorem dX6_share_17 : decode cX6_share 17 = .ok (.isub, 1) := by decide +kernel
theorem dX6_share_18 : decode cX6_share 18 = .ok (.i2l, 1) := by decide +kernel
theorem dX6_share_19 : decode cX6_share 19 = .ok (.invokestatic 57, 3) := by decide +kernel
theorem dX6_share_22 : decode cX6_share 22 = .ok (.ifCond .ne 5, 3) := by decide +kernel
theorem dX6_share_25 : decode cX6_share 25 = .ok (.iconst (-1), 1) := by decide +kernel
theorem dX6_share_26 : decode cX6_share 26 = .ok (.ireturn, 1) := by decide +kernel
theorem dX6_share_27 : decode cX6_share 27 = .ok (.iconst 0, 1) := by decide +kernel
theorem dX6_share_28 : decode cX6_share 28 = .ok (.istore 4, 2) := by decide +kernel
theorem dX6_share_30 : decode cX6_share 30 = .ok (.iload 4, 2) := by decide +kernel
theorem dX6_share_32 : decode cX6_share 32 = .ok (.iconst 1, 1) := by decide +kernel
theorem dX6_share_33 : decode cX6_share 33 = .ok (.iload_n 3, 1) := by decide +kernel
theorem dX6_share_34 : decode cX6_share 34 = .ok (.ishl, 1) := by decide +kernel
theorem dX6_share_35 : decode cX6_share 35 = .ok (.if_icmp .ge 22, 3) := by decide +kernel
theorem dX6_share_38 : decode cX6_share 38 = .ok (.aload_n 0, 1) := by decide +kernel
theorem dX6_share_39 : decode cX6_share 39 = .ok (.getfield 38, 3) := by decide +kernel
theorem dX6_share_42 : decode cX6_share 42 = .ok (.iload 4, 2) := by decide +kernel
theorem dX6_share_44 : decode cX6_share 44 = .ok (.aload_n 0, 1) := by decide +kernel
theorem dX6_share_45 : decode cX6_share 45 = .ok (.iload 4, 2) := by decide +kernel
theorem dX6_share_47 : decode cX6_share 47 = .ok (.invokevirtual 216, 3) := by decide +kernel
theorem dX6_share_50 : decode cX6_share 50 = .ok (.iastore, 1) := by decide +kernel
theorem dX6_share_51 : decode cX6_share 51 = .ok (.iinc 4 1, 3) := by decide +kernel
theorem dX6_share_54 : decode cX6_share 54 = .ok (.goto (-24), 3) := by decide +kernel
theorem dX6_share_57 : decode cX6_share 57 = .ok (.iconst 0, 1) := by decide +kernel
theorem dX6_share_58 : decode cX6_share 58 = .ok (.istore 4, 2) := by decide +kernel
theorem dX6_share_60 : decode cX6_share 60 = .ok (.iconst 0, 1) := by decide +kernel
theorem dX6_share_61 : decode cX6_share 61 = .ok (.istore 5, 2) := by decide +kernel
theorem dX6_share_63 : decode cX6_share 63 = .ok (.iconst 0, 1) := by decide +kernel
theorem dX6_share_64 : decode cX6_share 64 = .ok (.istore 6, 2) := by decide +kernel
theorem dX6_share_66 : decode cX6_share 66 = .ok (.iload 6, 2) := by decide +kernel
theorem dX6_share_68 : decode cX6_share 68 = .ok (.iconst 1, 1) := by decide +kernel
theorem dX6_share_69 : decode cX6_share 69 = .ok (.iload_n 3, 1) := by decide +kernel
theorem dX6_share_70 : decode cX6_share 70 = .ok (.ishl, 1) := by decide +kernel
theorem dX6_share_71 : decode cX6_share 71 = .ok (.if_icmp .ge 63, 3) := by decide +kernel
theorem dX6_share_74 : decode cX6_share 74 = .ok (.iload 6, 2) := by decide +kernel
theorem dX6_share_76 : decode cX6_share 76 = .ok (.iload_n 1, 1) := by decide +kernel
theorem dX6_share_77 : decode cX6_share 77 = .ok (.invokestatic 126, 3) := by decide +kernel
theorem dX6_share_80 : decode cX6_share 80 = .ok (.ifCond .ne 48, 3) := by decide +kernel
theorem dX6_share_83 : decode cX6_share 83 = .ok (.iload_n 3, 1) := by decide +kernel
theorem dX6_share_84 : decode cX6_share 84 = .ok (.iload 6, 2) := by decide +kernel
theorem dX6_share_86 : decode cX6_share 86 = .ok (.invokestatic 139, 3) := by decide +kernel
theorem dX6_share_89 : decode cX6_share 89 = .ok (.invokestatic 219, 3) := by decide +kernel
theorem dX6_share_92 : decode cX6_share 92 = .ok (.istore 7, 2) := by decide +kernel
theorem dX6_share_94 : decode cX6_share 94 = .ok (.iload 5, 2) := by decide +kernel
theorem dX6_share_96 : decode cX6_share 96 = .ok (.iload 7, 2) := by decide +kernel
theorem dX6_share_98 : decode cX6_share 98 = .ok (.iadd, 1) := by decide +kernel
theorem dX6_share_99 : decode cX6_share 99 = .ok (.istore 5, 2) := by decide +kernel
theorem dX6_share_101 : decode cX6_share 101 = .ok (.iload 4, 2) := by decide +kernel
theorem dX6_share_103 : decode cX6_share 103 = .ok (.iload 7, 2) := by decide +kernel
theorem dX6_share_105 : decode cX6_share 105 = .ok (.aload_n 0, 1) := by decide +kernel
theorem dX6_share_106 : decode cX6_share 106 = .ok (.getfield 38, 3) := by decide +kernel
theorem dX6_share_109 : decode cX6_share 109 = .ok (.iload 6, 2) := by decide +kernel
theorem dX6_share_111 : decode cX6_share 111 = .ok (.iconst 1, 1) := by decide +kernel
theorem dX6_share_112 : decode cX6_share 112 = .ok (.iload_n 1, 1) := by decide +kernel
theorem dX6_share_113 : decode cX6_share 113 = .ok (.ishl, 1) := by decide +kernel
theorem dX6_share_114 : decode cX6_share 114 = .ok (.ior, 1) := by decide +kernel
theorem dX6_share_115 : decode cX6_share 115 = .ok (.iaload, 1) := by decide +kernel
theorem dX6_share_116 : decode cX6_share 116 = .ok (.aload_n 0, 1) := by decide +kernel
theorem dX6_share_117 : decode cX6_share 117 = .ok (.getfield 38, 3) := by decide +kernel
theorem dX6_share_120 : decode cX6_share 120 = .ok (.iload 6, 2) := by decide +kernel
theorem dX6_share_122 : decode cX6_share 122 = .ok (.iaload, 1) := by decide +kernel
theorem dX6_share_123 : decode cX6_share 123 = .ok (.isub, 1) := by decide +kernel
theorem dX6_share_124 : decode cX6_share 124 = .ok (.imul, 1) := by decide +kernel
theorem dX6_share_125 : decode cX6_share 125 = .ok (.iadd, 1) := by decide +kernel
theorem dX6_share_126 : decode cX6_share 126 = .ok (.istore 4, 2) := by decide +kernel
theorem dX6_share_128 : decode cX6_share 128 = .ok (.iinc 6 1, 3) := by decide +kernel
theorem dX6_share_131 : decode cX6_share 131 = .ok (.goto (-65), 3) := by decide +kernel
theorem dX6_share_134 : decode cX6_share 134 = .ok (.iload 4, 2) := by decide +kernel
theorem dX6_share_136 : decode cX6_share 136 = .ok (.iload 5, 2) := by decide +kernel
theorem dX6_share_138 : decode cX6_share 138 = .ok (.iload_n 2, 1) := by decide +kernel
theorem dX6_share_139 : decode cX6_share 139 = .ok (.invokestatic 122, 3) := by decide +kernel
theorem dX6_share_142 : decode cX6_share 142 = .ok (.ireturn, 1) := by decide +kernel
theorem dX6_see_0 : decode cX6_see 0 = .ok (.aload_n 0, 1) := by decide +kernel
theorem dX6_see_1 : decode cX6_see 1 = .ok (.iconst 0, 1) := by decide +kernel
theorem dX6_see_2 : decode cX6_see 2 = .ok (.putfield 45, 3) := by decide +kernel
theorem dX6_see_5 : decode cX6_see 5 = .ok (.aload_n 0, 1) := by decide +kernel
theorem dX6_see_6 : decode cX6_see 6 = .ok (.iload_n 1, 1) := by decide +kernel
theorem dX6_see_7 : decode cX6_see 7 = .ok (.invokevirtual 118, 3) := by decide +kernel
theorem dX6_see_10 : decode cX6_see 10 = .ok (.ifCond .eq 5, 3) := by decide +kernel
theorem dX6_see_13 : decode cX6_see 13 = .ok (.iconst (-1), 1) := by decide +kernel
theorem dX6_see_14 : decode cX6_see 14 = .ok (.ireturn, 1) := by decide +kernel
theorem dX6_see_15 : decode cX6_see 15 = .ok (.iload_n 2, 1) := by decide +kernel
theorem dX6_see_16 : decode cX6_see 16 = .ok (.i2l, 1) := by decide +kernel
theorem dX6_see_17 : decode cX6_see 17 = .ok (.lconst 0, 1) := by decide +kernel
theorem dX6_see_18 : decode cX6_see 18 = .ok (.lconst 1, 1) := by decide +kernel
theorem dX6_see_19 : decode cX6_see 19 = .ok (.invokestatic 57, 3) := by decide +kernel
theorem dX6_see_22 : decode cX6_see 22 = .ok (.ifCond .ne 6, 3) := by decide +kernel
theorem dX6_see_25 : decode cX6_see 25 = .ok (.bipush (-2), 2) := by decide +kernel
theorem dX6_see_27 : decode cX6_see 27 = .ok (.ireturn, 1) := by decide +kernel
theorem dX6_see_28 : decode cX6_see 28 = .ok (.aload_n 0, 1) := by decide +kernel
theorem dX6_see_29 : decode cX6_see 29 = .ok (.getfield 115, 3) := by decide +kernel
theorem dX6_see_32 : decode cX6_see 32 = .ok (.bipush 6, 2) := by decide +kernel
theorem dX6_see_34 : decode cX6_see 34 = .ok (.if_icmp .ne 6, 3) := by decide +kernel
theorem dX6_see_37 : decode cX6_see 37 = .ok (.bipush (-4), 2) := by decide +kernel
theorem dX6_see_39 : decode cX6_see 39 = .ok (.ireturn, 1) := by decide +kernel
theorem dX6_see_40 : decode cX6_see 40 = .ok (.aload_n 0, 1) := by decide +kernel
theorem dX6_see_41 : decode cX6_see 41 = .ok (.getfield 32, 3) := by decide +kernel
theorem dX6_see_44 : decode cX6_see 44 = .ok (.aload_n 0, 1) := by decide +kernel
theorem dX6_see_45 : decode cX6_see 45 = .ok (.getfield 115, 3) := by decide +kernel
theorem dX6_see_48 : decode cX6_see 48 = .ok (.iload_n 1, 1) := by decide +kernel
theorem dX6_see_49 : decode cX6_see 49 = .ok (.iastore, 1) := by decide +kernel
theorem dX6_see_50 : decode cX6_see 50 = .ok (.aload_n 0, 1) := by decide +kernel
theorem dX6_see_51 : decode cX6_see 51 = .ok (.getfield 35, 3) := by decide +kernel
theorem dX6_see_54 : decode cX6_see 54 = .ok (.aload_n 0, 1) := by decide +kernel
theorem dX6_see_55 : decode cX6_see 55 = .ok (.getfield 115, 3) := by decide +kernel
theorem dX6_see_58 : decode cX6_see 58 = .ok (.iload_n 2, 1) := by decide +kernel
theorem dX6_see_59 : decode cX6_see 59 = .ok (.iastore, 1) := by decide +kernel
theorem dX6_see_60 : decode cX6_see 60 = .ok (.aload_n 0, 1) := by decide +kernel
theorem dX6_see_61 : decode cX6_see 61 = .ok (.dup, 1) := by decide +kernel
theorem dX6_see_62 : decode cX6_see 62 = .ok (.getfield 115, 3) := by decide +kernel
theorem dX6_see_65 : decode cX6_see 65 = .ok (.iconst 1, 1) := by decide +kernel
theorem dX6_see_66 : decode cX6_see 66 = .ok (.iadd, 1) := by decide +kernel
theorem dX6_see_67 : decode cX6_see 67 = .ok (.putfield 115, 3) := by decide +kernel
theorem dX6_see_70 : decode cX6_see 70 = .ok (.aload_n 0, 1) := by decide +kernel
theorem dX6_see_71 : decode cX6_see 71 = .ok (.getfield 115, 3) := by decide +kernel
theorem dX6_see_74 : decode cX6_see 74 = .ok (.ireturn, 1) := by decide +kernel
theorem dX6_unsee_0 : decode cX6_unsee 0 = .ok (.aload_n 0, 1) := by decide +kernel
theorem dX6_unsee_1 : decode cX6_unsee 1 = .ok (.iconst 0, 1) := by decide +kernel
theorem dX6_unsee_2 : decode cX6_unsee 2 = .ok (.putfield 45, 3) := by decide +kernel
theorem dX6_unsee_5 : decode cX6_unsee 5 = .ok (.aload_n 0, 1) := by decide +kernel
theorem dX6_unsee_6 : decode cX6_unsee 6 = .ok (.getfield 115, 3) := by decide +kernel
theorem dX6_unsee_9 : decode cX6_unsee 9 = .ok (.istore_n 1, 1) := by decide +kernel
theorem dX6_unsee_10 : decode cX6_unsee 10 = .ok (.aload_n 0, 1) := by decide +kernel
theorem dX6_unsee_11 : decode cX6_unsee 11 = .ok (.iconst 0, 1) := by decide +kernel
theorem dX6_unsee_12 : decode cX6_unsee 12 = .ok (.putfield 115, 3) := by decide +kernel
theorem dX6_unsee_15 : decode cX6_unsee 15 = .ok (.iload_n 1, 1) := by decide +kernel
theorem dX6_unsee_16 : decode cX6_unsee 16 = .ok (.ireturn, 1) := by decide +kernel
theorem dX6_ways_0 : decode cX6_ways 0 = .ok (.aload_n 0, 1) := by decide +kernel
theorem dX6_ways_1 : decode cX6_ways 1 = .ok (.iconst 0, 1) := by decide +kernel
theorem dX6_ways_2 : decode cX6_ways 2 = .ok (.putfield 45, 3) := by decide +kernel
theorem dX6_ways_5 : decode cX6_ways 5 = .ok (.iload_n 1, 1) := by decide +kernel
theorem dX6_ways_6 : decode cX6_ways 6 = .ok (.i2l, 1) := by decide +kernel
theorem dX6_ways_7 : decode cX6_ways 7 = .ok (.lconst 0, 1) := by decide +kernel
theorem dX6_ways_8 : decode cX6_ways 8 = .ok (.lconst 1, 1) := by decide +kernel
theorem dX6_ways_9 : decode cX6_ways 9 = .ok (.invokestatic 57, 3) := by decide +kernel
theorem dX6_ways_12 : decode cX6_ways 12 = .ok (.ifCond .ne 6, 3) := by decide +kernel
theorem dX6_ways_15 : decode cX6_ways 15 = .ok (.bipush (-2), 2) := by decide +kernel
theorem dX6_ways_17 : decode cX6_ways 17 = .ok (.ireturn, 1) := by decide +kernel
theorem dX6_ways_18 : decode cX6_ways 18 = .ok (.aload_n 0, 1) := by decide +kernel
theorem dX6_ways_19 : decode cX6_ways 19 = .ok (.iconst 0, 1) := by decide +kernel
theorem dX6_ways_20 : decode cX6_ways 20 = .ok (.putfield 222, 3) := by decide +kernel
theorem dX6_ways_23 : decode cX6_ways 23 = .ok (.aload_n 0, 1) := by decide +kernel
theorem dX6_ways_24 : decode cX6_ways 24 = .ok (.bipush (-9), 2) := by decide +kernel
theorem dX6_ways_26 : decode cX6_ways 26 = .ok (.putfield 225, 3) := by decide +kernel
theorem dX6_ways_29 : decode cX6_ways 29 = .ok (.iconst 0, 1) := by decide +kernel
theorem dX6_ways_30 : decode cX6_ways 30 = .ok (.istore_n 2, 1) := by decide +kernel
theorem dX6_ways_31 : decode cX6_ways 31 = .ok (.iload_n 2, 1) := by decide +kernel
theorem dX6_ways_32 : decode cX6_ways 32 = .ok (.bipush 30, 2) := by decide +kernel
theorem dX6_ways_34 : decode cX6_ways 34 = .ok (.if_icmp .ge 121, 3) := by decide +kernel
theorem dX6_ways_37 : decode cX6_ways 37 = .ok (.aload_n 0, 1) := by decide +kernel
theorem dX6_ways_38 : decode cX6_ways 38 = .ok (.iload_n 2, 1) := by decide +kernel
theorem dX6_ways_39 : decode cX6_ways 39 = .ok (.invokevirtual 182, 3) := by decide +kernel
theorem dX6_ways_42 : decode cX6_ways 42 = .ok (.istore_n 3, 1) := by decide +kernel
theorem dX6_ways_43 : decode cX6_ways 43 = .ok (.iconst 1, 1) := by decide +kernel
theorem dX6_ways_44 : decode cX6_ways 44 = .ok (.istore 4, 2) := by decide +kernel
theorem dX6_ways_46 : decode cX6_ways 46 = .ok (.iconst 0, 1) := by decide +kernel
theorem dX6_ways_47 : decode cX6_ways 47 = .ok (.istore 5, 2) := by decide +kernel
theorem dX6_ways_49 : decode cX6_ways 49 = .ok (.iload 5, 2) := by decide +kernel
theorem dX6_ways_51 : decode cX6_ways 51 = .ok (.aload_n 0, 1) := by decide +kernel
theorem dX6_ways_52 : decode cX6_ways 52 = .ok (.getfield 115, 3) := by decide +kernel
theorem dX6_ways_55 : decode cX6_ways 55 = .ok (.if_icmp .ge 51, 3) := by decide +kernel
theorem dX6_ways_58 : decode cX6_ways 58 = .ok (.iload 4, 2) := by decide +kernel
theorem dX6_ways_60 : decode cX6_ways 60 = .ok (.ifCond .eq 37, 3) := by decide +kernel
theorem dX6_ways_63 : decode cX6_ways 63 = .ok (.iload_n 3, 1) := by decide +kernel
theorem dX6_ways_64 : decode cX6_ways 64 = .ok (.aload_n 0, 1) := by decide +kernel
theorem dX6_ways_65 : decode cX6_ways 65 = .ok (.getfield 32, 3) := by decide +kernel
theorem dX6_ways_68 : decode cX6_ways 68 = .ok (.iload 5, 2) := by decide +kernel
theorem dX6_ways_70 : decode cX6_ways 70 = .ok (.iaload, 1) := by decide +kernel
theorem dX6_ways_71 : decode cX6_ways 71 = .ok (.invokestatic 126, 3) := by decide +kernel
theorem dX6_ways_74 : decode cX6_ways 74 = .ok (.aload_n 0, 1) := by decide +kernel
theorem dX6_ways_75 : decode cX6_ways 75 = .ok (.getfield 35, 3) := by decide +kernel
theorem dX6_ways_78 : decode cX6_ways 78 = .ok (.iload 5, 2) := by decide +kernel
theorem dX6_ways_80 : decode cX6_ways 80 = .ok (.iaload, 1) := by decide +kernel
theorem dX6_ways_81 : decode cX6_ways 81 = .ok (.iconst 1, 1) := by decide +kernel
theorem dX6_ways_82 : decode cX6_ways 82 = .ok (.if_icmp .ne 7, 3) := by decide +kernel
theorem dX6_ways_85 : decode cX6_ways 85 = .ok (.iconst 1, 1) := by decide +kernel
theorem dX6_ways_86 : decode cX6_ways 86 = .ok (.goto 4, 3) := by decide +kernel
theorem dX6_ways_89 : decode cX6_ways 89 = .ok (.iconst 0, 1) := by decide +kernel
theorem dX6_ways_90 : decode cX6_ways 90 = .ok (.if_icmp .ne 7, 3) := by decide +kernel
theorem dX6_ways_93 : decode cX6_ways 93 = .ok (.iconst 1, 1) := by decide +kernel
theorem dX6_ways_94 : decode cX6_ways 94 = .ok (.goto 4, 3) := by decide +kernel
theorem dX6_ways_97 : decode cX6_ways 97 = .ok (.iconst 0, 1) := by decide +kernel
theorem dX6_ways_98 : decode cX6_ways 98 = .ok (.istore 4, 2) := by decide +kernel
theorem dX6_ways_100 : decode cX6_ways 100 = .ok (.iinc 5 1, 3) := by decide +kernel
theorem dX6_ways_103 : decode cX6_ways 103 = .ok (.goto (-54), 3) := by decide +kernel
theorem dX6_ways_106 : decode cX6_ways 106 = .ok (.aload_n 0, 1) := by decide +kernel
theorem dX6_ways_107 : decode cX6_ways 107 = .ok (.iload 4, 2) := by decide +kernel
theorem dX6_ways_109 : decode cX6_ways 109 = .ok (.ifCond .eq 14, 3) := by decide +kernel
theorem dX6_ways_112 : decode cX6_ways 112 = .ok (.aload_n 0, 1) := by decide +kernel
theorem dX6_ways_113 : decode cX6_ways 113 = .ok (.getfield 222, 3) := by decide +kernel
theorem dX6_ways_116 : decode cX6_ways 116 = .ok (.ifCond .ne 7, 3) := by decide +kernel
theorem dX6_ways_119 : decode cX6_ways 119 = .ok (.iload_n 2, 1) := by decide +kernel
theorem dX6_ways_120 : decode cX6_ways 120 = .ok (.goto 7, 3) := by decide +kernel
theorem dX6_ways_123 : decode cX6_ways 123 = .ok (.aload_n 0, 1) := by decide +kernel
theorem dX6_ways_124 : decode cX6_ways 124 = .ok (.getfield 225, 3) := by decide +kernel
theorem dX6_ways_127 : decode cX6_ways 127 = .ok (.putfield 225, 3) := by decide +kernel
theorem dX6_ways_130 : decode cX6_ways 130 = .ok (.aload_n 0, 1) := by decide +kernel
theorem dX6_ways_131 : decode cX6_ways 131 = .ok (.dup, 1) := by decide +kernel
theorem dX6_ways_132 : decode cX6_ways 132 = .ok (.getfield 222, 3) := by decide +kernel
theorem dX6_ways_135 : decode cX6_ways 135 = .ok (.iload 4, 2) := by decide +kernel
theorem dX6_ways_137 : decode cX6_ways 137 = .ok (.ifCond .eq 7, 3) := by decide +kernel
theorem dX6_ways_140 : decode cX6_ways 140 = .ok (.iconst 1, 1) := by decide +kernel
theorem dX6_ways_141 : decode cX6_ways 141 = .ok (.goto 4, 3) := by decide +kernel
theorem dX6_ways_144 : decode cX6_ways 144 = .ok (.iconst 0, 1) := by decide +kernel
theorem dX6_ways_145 : decode cX6_ways 145 = .ok (.iadd, 1) := by decide +kernel
theorem dX6_ways_146 : decode cX6_ways 146 = .ok (.putfield 222, 3) := by decide +kernel
theorem dX6_ways_149 : decode cX6_ways 149 = .ok (.iinc 2 1, 3) := by decide +kernel
theorem dX6_ways_152 : decode cX6_ways 152 = .ok (.goto (-121), 3) := by decide +kernel
theorem dX6_ways_155 : decode cX6_ways 155 = .ok (.iload_n 1, 1) := by decide +kernel
theorem dX6_ways_156 : decode cX6_ways 156 = .ok (.ifCond .ne 10, 3) := by decide +kernel
theorem dX6_ways_159 : decode cX6_ways 159 = .ok (.aload_n 0, 1) := by decide +kernel
theorem dX6_ways_160 : decode cX6_ways 160 = .ok (.getfield 222, 3) := by decide +kernel
theorem dX6_ways_163 : decode cX6_ways 163 = .ok (.goto 7, 3) := by decide +kernel
theorem dX6_ways_166 : decode cX6_ways 166 = .ok (.aload_n 0, 1) := by decide +kernel
theorem dX6_ways_167 : decode cX6_ways 167 = .ok (.getfield 225, 3) := by decide +kernel
theorem dX6_ways_170 : decode cX6_ways 170 = .ok (.ireturn, 1) := by decide +kernel
theorem dX6_bleached_0 : decode cX6_bleached 0 = .ok (.aload_n 0, 1) := by decide +kernel
theorem dX6_bleached_1 : decode cX6_bleached 1 = .ok (.iconst 0, 1) := by decide +kernel
theorem dX6_bleached_2 : decode cX6_bleached 2 = .ok (.putfield 45, 3) := by decide +kernel
theorem dX6_bleached_5 : decode cX6_bleached 5 = .ok (.aload_n 0, 1) := by decide +kernel
theorem dX6_bleached_6 : decode cX6_bleached 6 = .ok (.getfield 16, 3) := by decide +kernel
theorem dX6_bleached_9 : decode cX6_bleached 9 = .ok (.iconst 0, 1) := by decide +kernel
theorem dX6_bleached_10 : decode cX6_bleached 10 = .ok (.iaload, 1) := by decide +kernel
theorem dX6_bleached_11 : decode cX6_bleached 11 = .ok (.istore 5, 2) := by decide +kernel
theorem dX6_bleached_13 : decode cX6_bleached 13 = .ok (.iload_n 1, 1) := by decide +kernel
theorem dX6_bleached_14 : decode cX6_bleached 14 = .ok (.i2l, 1) := by decide +kernel
theorem dX6_bleached_15 : decode cX6_bleached 15 = .ok (.lconst 0, 1) := by decide +kernel
theorem dX6_bleached_16 : decode cX6_bleached 16 = .ok (.aload_n 0, 1) := by decide +kernel
theorem dX6_bleached_17 : decode cX6_bleached 17 = .ok (.getfield 16, 3) := by decide +kernel
theorem dX6_bleached_20 : decode cX6_bleached 20 = .ok (.iconst 1, 1) := by decide +kernel
theorem dX6_bleached_21 : decode cX6_bleached 21 = .ok (.iaload, 1) := by decide +kernel
theorem dX6_bleached_22 : decode cX6_bleached 22 = .ok (.iconst 1, 1) := by decide +kernel
theorem dX6_bleached_23 : decode cX6_bleached 23 = .ok (.isub, 1) := by decide +kernel
theorem dX6_bleached_24 : decode cX6_bleached 24 = .ok (.i2l, 1) := by decide +kernel
theorem dX6_bleached_25 : decode cX6_bleached 25 = .ok (.invokestatic 57, 3) := by decide +kernel
theorem dX6_bleached_28 : decode cX6_bleached 28 = .ok (.ifCond .ne 5, 3) := by decide +kernel
theorem dX6_bleached_31 : decode cX6_bleached 31 = .ok (.iconst (-1), 1) := by decide +kernel
theorem dX6_bleached_32 : decode cX6_bleached 32 = .ok (.ireturn, 1) := by decide +kernel
theorem dX6_bleached_33 : decode cX6_bleached 33 = .ok (.iload_n 2, 1) := by decide +kernel
theorem dX6_bleached_34 : decode cX6_bleached 34 = .ok (.i2l, 1) := by decide +kernel
theorem dX6_bleached_35 : decode cX6_bleached 35 = .ok (.lconst 0, 1) := by decide +kernel
theorem dX6_bleached_36 : decode cX6_bleached 36 = .ok (.ldc2_w 130, 3) := by decide +kernel
theorem dX6_bleached_39 : decode cX6_bleached 39 = .ok (.invokestatic 57, 3) := by decide +kernel
theorem dX6_bleached_42 : decode cX6_bleached 42 = .ok (.ifCond .eq 15, 3) := by decide +kernel
theorem dX6_bleached_45 : decode cX6_bleached 45 = .ok (.iload_n 3, 1) := by decide +kernel
theorem dX6_bleached_46 : decode cX6_bleached 46 = .ok (.i2l, 1) := by decide +kernel
theorem dX6_bleached_47 : decode cX6_bleached 47 = .ok (.lconst 0, 1) := by decide +kernel
theorem dX6_bleached_48 : decode cX6_bleached 48 = .ok (.ldc2_w 228, 3) := by decide +kernel
theorem dX6_bleached_51 : decode cX6_bleached 51 = .ok (.invokestatic 57, 3) := by decide +kernel
theorem dX6_bleached_54 : decode cX6_bleached 54 = .ok (.ifCond .ne 6, 3) := by decide +kernel
theorem dX6_bleached_57 : decode cX6_bleached 57 = .ok (.bipush (-2), 2) := by decide +kernel
theorem dX6_bleached_59 : decode cX6_bleached 59 = .ok (.ireturn, 1) := by decide +kernel
theorem dX6_bleached_60 : decode cX6_bleached 60 = .ok (.iconst 0, 1) := by decide +kernel
theorem dX6_bleached_61 : decode cX6_bleached 61 = .ok (.istore 6, 2) := by decide +kernel
theorem dX6_bleached_63 : decode cX6_bleached 63 = .ok (.iconst 0, 1) := by decide +kernel
theorem dX6_bleached_64 : decode cX6_bleached 64 = .ok (.istore 7, 2) := by decide +kernel
theorem dX6_bleached_66 : decode cX6_bleached 66 = .ok (.iload 7, 2) := by decide +kernel
theorem dX6_bleached_68 : decode cX6_bleached 68 = .ok (.iconst 1, 1) := by decide +kernel
theorem dX6_bleached_69 : decode cX6_bleached 69 = .ok (.iload 5, 2) := by decide +kernel
theorem dX6_bleached_71 : decode cX6_bleached 71 = .ok (.ishl, 1) := by decide +kernel
theorem dX6_bleached_72 : decode cX6_bleached 72 = .ok (.if_icmp .ge 119, 3) := by decide +kernel
theorem dX6_bleached_75 : decode cX6_bleached 75 = .ok (.aload_n 0, 1) := by decide +kernel
theorem dX6_bleached_76 : decode cX6_bleached 76 = .ok (.invokevirtual 179, 3) := by decide +kernel
theorem dX6_bleached_79 : decode cX6_bleached 79 = .ok (.iconst 0, 1) := by decide +kernel
theorem dX6_bleached_80 : decode cX6_bleached 80 = .ok (.istore 8, 2) := by decide +kernel
theorem dX6_bleached_82 : decode cX6_bleached 82 = .ok (.iload 8, 2) := by decide +kernel
theorem dX6_bleached_84 : decode cX6_bleached 84 = .ok (.iload 5, 2) := by decide +kernel
theorem dX6_bleached_86 : decode cX6_bleached 86 = .ok (.if_icmp .ge 49, 3) := by decide +kernel
theorem dX6_bleached_89 : decode cX6_bleached 89 = .ok (.iconst 2, 1) := by decide +kernel
theorem dX6_bleached_90 : decode cX6_bleached 90 = .ok (.iload 5, 2) := by decide +kernel
theorem dX6_bleached_92 : decode cX6_bleached 92 = .ok (.iload_n 1, 1) := by decide +kernel
theorem dX6_bleached_93 : decode cX6_bleached 93 = .ok (.imul, 1) := by decide +kernel
theorem dX6_bleached_94 : decode cX6_bleached 94 = .ok (.iadd, 1) := by decide +kernel
theorem dX6_bleached_95 : decode cX6_bleached 95 = .ok (.iload 8, 2) := by decide +kernel
theorem dX6_bleached_97 : decode cX6_bleached 97 = .ok (.iadd, 1) := by decide +kernel
theorem dX6_bleached_98 : decode cX6_bleached 98 = .ok (.istore 9, 2) := by decide +kernel
theorem dX6_bleached_100 : decode cX6_bleached 100 = .ok (.aload_n 0, 1) := by decide +kernel
theorem dX6_bleached_101 : decode cX6_bleached 101 = .ok (.getfield 19, 3) := by decide +kernel
theorem dX6_bleached_104 : decode cX6_bleached 104 = .ok (.iload 9, 2) := by decide +kernel
theorem dX6_bleached_106 : decode cX6_bleached 106 = .ok (.iload 7, 2) := by decide +kernel
theorem dX6_bleached_108 : decode cX6_bleached 108 = .ok (.iload 8, 2) := by decide +kernel
theorem dX6_bleached_110 : decode cX6_bleached 110 = .ok (.invokestatic 126, 3) := by decide +kernel
theorem dX6_bleached_113 : decode cX6_bleached 113 = .ok (.ifCond .eq 8, 3) := by decide +kernel
theorem dX6_bleached_116 : decode cX6_bleached 116 = .ok (.bipush 9, 2) := by decide +kernel
theorem dX6_bleached_118 : decode cX6_bleached 118 = .ok (.goto 10, 3) := by decide +kernel
theorem dX6_bleached_121 : decode cX6_bleached 121 = .ok (.aload_n 0, 1) := by decide +kernel
theorem dX6_bleached_122 : decode cX6_bleached 122 = .ok (.getfield 19, 3) := by decide +kernel
theorem dX6_bleached_125 : decode cX6_bleached 125 = .ok (.iload 9, 2) := by decide +kernel
theorem dX6_bleached_127 : decode cX6_bleached 127 = .ok (.iaload, 1) := by decide +kernel
theorem dX6_bleached_128 : decode cX6_bleached 128 = .ok (.iastore, 1) := by decide +kernel
theorem dX6_bleached_129 : decode cX6_bleached 129 = .ok (.iinc 8 1, 3) := by decide +kernel
theorem dX6_bleached_132 : decode cX6_bleached 132 = .ok (.goto (-50), 3) := by decide +kernel
theorem dX6_bleached_135 : decode cX6_bleached 135 = .ok (.iload 7, 2) := by decide +kernel
theorem dX6_bleached_137 : decode cX6_bleached 137 = .ok (.invokestatic 139, 3) := by decide +kernel
theorem dX6_bleached_140 : decode cX6_bleached 140 = .ok (.istore 8, 2) := by decide +kernel
theorem dX6_bleached_142 : decode cX6_bleached 142 = .ok (.iload 6, 2) := by decide +kernel
theorem dX6_bleached_144 : decode cX6_bleached 144 = .ok (.aload_n 0, 1) := by decide +kernel
theorem dX6_bleached_145 : decode cX6_bleached 145 = .ok (.aload_n 0, 1) := by decide +kernel
theorem dX6_bleached_146 : decode cX6_bleached 146 = .ok (.getfield 19, 3) := by decide +kernel
theorem dX6_bleached_149 : decode cX6_bleached 149 = .ok (.invokevirtual 132, 3) := by decide +kernel
theorem dX6_bleached_152 : decode cX6_bleached 152 = .ok (.invokestatic 139, 3) := by decide +kernel
theorem dX6_bleached_155 : decode cX6_bleached 155 = .ok (.iload_n 2, 1) := by decide +kernel
theorem dX6_bleached_156 : decode cX6_bleached 156 = .ok (.if_icmp .lt 25, 3) := by decide +kernel
theorem dX6_bleached_159 : decode cX6_bleached 159 = .ok (.iload_n 3, 1) := by decide +kernel
theorem dX6_bleached_160 : decode cX6_bleached 160 = .ok (.iload 8, 2) := by decide +kernel
theorem dX6_bleached_162 : decode cX6_bleached 162 = .ok (.invokestatic 230, 3) := by decide +kernel
theorem dX6_bleached_165 : decode cX6_bleached 165 = .ok (.bipush 10, 2) := by decide +kernel
theorem dX6_bleached_167 : decode cX6_bleached 167 = .ok (.iload_n 3, 1) := by decide +kernel
theorem dX6_bleached_168 : decode cX6_bleached 168 = .ok (.isub, 1) := by decide +kernel
theorem dX6_bleached_169 : decode cX6_bleached 169 = .ok (.iload 5, 2) := by decide +kernel
theorem dX6_bleached_171 : decode cX6_bleached 171 = .ok (.iload 8, 2) := by decide +kernel
theorem dX6_bleached_173 : decode cX6_bleached 173 = .ok (.isub, 1) := by decide +kernel
theorem dX6_bleached_174 : decode cX6_bleached 174 = .ok (.invokestatic 230, 3) := by decide +kernel
theorem dX6_bleached_177 : decode cX6_bleached 177 = .ok (.imul, 1) := by decide +kernel
theorem dX6_bleached_178 : decode cX6_bleached 178 = .ok (.goto 4, 3) := by decide +kernel
theorem dX6_bleached_181 : decode cX6_bleached 181 = .ok (.iconst 0, 1) := by decide +kernel
theorem dX6_bleached_182 : decode cX6_bleached 182 = .ok (.iadd, 1) := by decide +kernel
theorem dX6_bleached_183 : decode cX6_bleached 183 = .ok (.istore 6, 2) := by decide +kernel
theorem dX6_bleached_185 : decode cX6_bleached 185 = .ok (.iinc 7 1, 3) := by decide +kernel
theorem dX6_bleached_188 : decode cX6_bleached 188 = .ok (.goto (-122), 3) := by decide +kernel
theorem dX6_bleached_191 : decode cX6_bleached 191 = .ok (.iload 6, 2) := by decide +kernel
theorem dX6_bleached_193 : decode cX6_bleached 193 = .ok (.bipush 10, 2) := by decide +kernel
theorem dX6_bleached_195 : decode cX6_bleached 195 = .ok (.iload 5, 2) := by decide +kernel
theorem dX6_bleached_197 : decode cX6_bleached 197 = .ok (.invokestatic 230, 3) := by decide +kernel
theorem dX6_bleached_200 : decode cX6_bleached 200 = .ok (.iload 4, 2) := by decide +kernel
theorem dX6_bleached_202 : decode cX6_bleached 202 = .ok (.invokestatic 122, 3) := by decide +kernel
theorem dX6_bleached_205 : decode cX6_bleached 205 = .ok (.ireturn, 1) := by decide +kernel
theorem dX6_seed_0 : decode cX6_seed 0 = .ok (.aload_n 0, 1) := by decide +kernel
theorem dX6_seed_1 : decode cX6_seed 1 = .ok (.iconst 0, 1) := by decide +kernel
theorem dX6_seed_2 : decode cX6_seed 2 = .ok (.putfield 45, 3) := by decide +kernel
theorem dX6_seed_5 : decode cX6_seed 5 = .ok (.aload_n 0, 1) := by decide +kernel
theorem dX6_seed_6 : decode cX6_seed 6 = .ok (.getfield 233, 3) := by decide +kernel
theorem dX6_seed_9 : decode cX6_seed 9 = .ok (.lstore_n 3, 1) := by decide +kernel
theorem dX6_seed_10 : decode cX6_seed 10 = .ok (.aload_n 0, 1) := by decide +kernel
theorem dX6_seed_11 : decode cX6_seed 11 = .ok (.lload_n 1, 1) := by decide +kernel
theorem dX6_seed_12 : decode cX6_seed 12 = .ok (.putfield 233, 3) := by decide +kernel
theorem dX6_seed_15 : decode cX6_seed 15 = .ok (.lload_n 3, 1) := by decide +kernel
theorem dX6_seed_16 : decode cX6_seed 16 = .ok (.lreturn, 1) := by decide +kernel
theorem dX6_drawn_0 : decode cX6_drawn 0 = .ok (.aload_n 0, 1) := by decide +kernel
theorem dX6_drawn_1 : decode cX6_drawn 1 = .ok (.iconst 0, 1) := by decide +kernel
theorem dX6_drawn_2 : decode cX6_drawn 2 = .ok (.putfield 45, 3) := by decide +kernel
theorem dX6_drawn_5 : decode cX6_drawn 5 = .ok (.iload_n 1, 1) := by decide +kernel
theorem dX6_drawn_6 : decode cX6_drawn 6 = .ok (.i2l, 1) := by decide +kernel
theorem dX6_drawn_7 : decode cX6_drawn 7 = .ok (.lconst 1, 1) := by decide +kernel
theorem dX6_drawn_8 : decode cX6_drawn 8 = .ok (.ldc2_w 237, 3) := by decide +kernel
theorem dX6_drawn_11 : decode cX6_drawn 11 = .ok (.invokestatic 57, 3) := by decide +kernel
theorem dX6_drawn_14 : decode cX6_drawn 14 = .ok (.ifCond .ne 6, 3) := by decide +kernel
theorem dX6_drawn_17 : decode cX6_drawn 17 = .ok (.bipush (-2), 2) := by decide +kernel
theorem dX6_drawn_19 : decode cX6_drawn 19 = .ok (.ireturn, 1) := by decide +kernel
theorem dX6_drawn_20 : decode cX6_drawn 20 = .ok (.aload_n 0, 1) := by decide +kernel
theorem dX6_drawn_21 : decode cX6_drawn 21 = .ok (.invokevirtual 179, 3) := by decide +kernel
theorem dX6_drawn_24 : decode cX6_drawn 24 = .ok (.iconst 0, 1) := by decide +kernel
theorem dX6_drawn_25 : decode cX6_drawn 25 = .ok (.istore_n 2, 1) := by decide +kernel
theorem dX6_drawn_26 : decode cX6_drawn 26 = .ok (.iconst 0, 1) := by decide +kernel
theorem dX6_drawn_27 : decode cX6_drawn 27 = .ok (.istore_n 3, 1) := by decide +kernel
theorem dX6_drawn_28 : decode cX6_drawn 28 = .ok (.iload_n 3, 1) := by decide +kernel
theorem dX6_drawn_29 : decode cX6_drawn 29 = .ok (.iload_n 1, 1) := by decide +kernel
theorem dX6_drawn_30 : decode cX6_drawn 30 = .ok (.if_icmp .ge 74, 3) := by decide +kernel
theorem dX6_drawn_33 : decode cX6_drawn 33 = .ok (.aload_n 0, 1) := by decide +kernel
theorem dX6_drawn_34 : decode cX6_drawn 34 = .ok (.aload_n 0, 1) := by decide +kernel
theorem dX6_drawn_35 : decode cX6_drawn 35 = .ok (.getfield 233, 3) := by decide +kernel
theorem dX6_drawn_38 : decode cX6_drawn 38 = .ok (.ldc2_w 239, 3) := by decide +kernel
theorem dX6_drawn_41 : decode cX6_drawn 41 = .ok (.lmul, 1) := by decide +kernel
theorem dX6_drawn_42 : decode cX6_drawn 42 = .ok (.ldc2_w 241, 3) := by decide +kernel
theorem dX6_drawn_45 : decode cX6_drawn 45 = .ok (.ladd, 1) := by decide +kernel
theorem dX6_drawn_46 : decode cX6_drawn 46 = .ok (.putfield 233, 3) := by decide +kernel
theorem dX6_drawn_49 : decode cX6_drawn 49 = .ok (.aload_n 0, 1) := by decide +kernel
theorem dX6_drawn_50 : decode cX6_drawn 50 = .ok (.getfield 233, 3) := by decide +kernel
theorem dX6_drawn_53 : decode cX6_drawn 53 = .ok (.bipush 33, 2) := by decide +kernel
theorem dX6_drawn_55 : decode cX6_drawn 55 = .ok (.lushr, 1) := by decide +kernel
theorem dX6_drawn_56 : decode cX6_drawn 56 = .ok (.l2i, 1) := by decide +kernel
theorem dX6_drawn_57 : decode cX6_drawn 57 = .ok (.istore 4, 2) := by decide +kernel
theorem dX6_drawn_59 : decode cX6_drawn 59 = .ok (.aload_n 0, 1) := by decide +kernel
theorem dX6_drawn_60 : decode cX6_drawn 60 = .ok (.getfield 19, 3) := by decide +kernel
theorem dX6_drawn_63 : decode cX6_drawn 63 = .ok (.iconst 2, 1) := by decide +kernel
theorem dX6_drawn_64 : decode cX6_drawn 64 = .ok (.iload 4, 2) := by decide +kernel
theorem dX6_drawn_66 : decode cX6_drawn 66 = .ok (.aload_n 0, 1) := by decide +kernel
theorem dX6_drawn_67 : decode cX6_drawn 67 = .ok (.getfield 19, 3) := by decide +kernel
theorem dX6_drawn_70 : decode cX6_drawn 70 = .ok (.invokestatic 53, 3) := by decide +kernel
theorem dX6_drawn_73 : decode cX6_drawn 73 = .ok (.irem, 1) := by decide +kernel
theorem dX6_drawn_74 : decode cX6_drawn 74 = .ok (.iadd, 1) := by decide +kernel
theorem dX6_drawn_75 : decode cX6_drawn 75 = .ok (.iload 4, 2) := by decide +kernel
theorem dX6_drawn_77 : decode cX6_drawn 77 = .ok (.bipush 32, 2) := by decide +kernel
theorem dX6_drawn_79 : decode cX6_drawn 79 = .ok (.idiv, 1) := by decide +kernel
theorem dX6_drawn_80 : decode cX6_drawn 80 = .ok (.bipush 10, 2) := by decide +kernel
theorem dX6_drawn_82 : decode cX6_drawn 82 = .ok (.irem, 1) := by decide +kernel
theorem dX6_drawn_83 : decode cX6_drawn 83 = .ok (.iastore, 1) := by decide +kernel
theorem dX6_drawn_84 : decode cX6_drawn 84 = .ok (.iload_n 2, 1) := by decide +kernel
theorem dX6_drawn_85 : decode cX6_drawn 85 = .ok (.aload_n 0, 1) := by decide +kernel
theorem dX6_drawn_86 : decode cX6_drawn 86 = .ok (.aload_n 0, 1) := by decide +kernel
theorem dX6_drawn_87 : decode cX6_drawn 87 = .ok (.getfield 19, 3) := by decide +kernel
theorem dX6_drawn_90 : decode cX6_drawn 90 = .ok (.invokevirtual 132, 3) := by decide +kernel
theorem dX6_drawn_93 : decode cX6_drawn 93 = .ok (.invokestatic 139, 3) := by decide +kernel
theorem dX6_drawn_96 : decode cX6_drawn 96 = .ok (.iadd, 1) := by decide +kernel
theorem dX6_drawn_97 : decode cX6_drawn 97 = .ok (.istore_n 2, 1) := by decide +kernel
theorem dX6_drawn_98 : decode cX6_drawn 98 = .ok (.iinc 3 1, 3) := by decide +kernel
theorem dX6_drawn_101 : decode cX6_drawn 101 = .ok (.goto (-73), 3) := by decide +kernel
theorem dX6_drawn_104 : decode cX6_drawn 104 = .ok (.iload_n 2, 1) := by decide +kernel
theorem dX6_drawn_105 : decode cX6_drawn 105 = .ok (.ireturn, 1) := by decide +kernel
theorem dX6_keep_0 : decode cX6_keep 0 = .ok (.aload_n 0, 1) := by decide +kernel
theorem dX6_keep_1 : decode cX6_keep 1 = .ok (.iconst 0, 1) := by decide +kernel
theorem dX6_keep_2 : decode cX6_keep 2 = .ok (.putfield 45, 3) := by decide +kernel
theorem dX6_keep_5 : decode cX6_keep 5 = .ok (.iload_n 1, 1) := by decide +kernel
theorem dX6_keep_6 : decode cX6_keep 6 = .ok (.i2l, 1) := by decide +kernel
theorem dX6_keep_7 : decode cX6_keep 7 = .ok (.lconst 0, 1) := by decide +kernel
theorem dX6_keep_8 : decode cX6_keep 8 = .ok (.lconst 1, 1) := by decide +kernel
theorem dX6_keep_9 : decode cX6_keep 9 = .ok (.invokestatic 57, 3) := by decide +kernel
theorem dX6_keep_12 : decode cX6_keep 12 = .ok (.ifCond .ne 5, 3) := by decide +kernel
theorem dX6_keep_15 : decode cX6_keep 15 = .ok (.iconst (-1), 1) := by decide +kernel
theorem dX6_keep_16 : decode cX6_keep 16 = .ok (.ireturn, 1) := by decide +kernel
theorem dX6_keep_17 : decode cX6_keep 17 = .ok (.aload_n 0, 1) := by decide +kernel
theorem dX6_keep_18 : decode cX6_keep 18 = .ok (.getfield 28, 3) := by decide +kernel
theorem dX6_keep_21 : decode cX6_keep 21 = .ok (.iload_n 1, 1) := by decide +kernel
theorem dX6_keep_22 : decode cX6_keep 22 = .ok (.iconst 1, 1) := by decide +kernel
theorem dX6_keep_23 : decode cX6_keep 23 = .ok (.bastore, 1) := by decide +kernel
theorem dX6_keep_24 : decode cX6_keep 24 = .ok (.iconst 0, 1) := by decide +kernel
theorem dX6_keep_25 : decode cX6_keep 25 = .ok (.istore_n 2, 1) := by decide +kernel
theorem dX6_keep_26 : decode cX6_keep 26 = .ok (.iload_n 2, 1) := by decide +kernel
theorem dX6_keep_27 : decode cX6_keep 27 = .ok (.bipush 67, 2) := by decide +kernel
theorem dX6_keep_29 : decode cX6_keep 29 = .ok (.if_icmp .ge 26, 3) := by decide +kernel
theorem dX6_keep_32 : decode cX6_keep 32 = .ok (.aload_n 0, 1) := by decide +kernel
theorem dX6_keep_33 : decode cX6_keep 33 = .ok (.getfield 25, 3) := by decide +kernel
theorem dX6_keep_36 : decode cX6_keep 36 = .ok (.bipush 67, 2) := by decide +kernel
theorem dX6_keep_38 : decode cX6_keep 38 = .ok (.iload_n 1, 1) := by decide +kernel
theorem dX6_keep_39 : decode cX6_keep 39 = .ok (.imul, 1) := by decide +kernel
theorem dX6_keep_40 : decode cX6_keep 40 = .ok (.iload_n 2, 1) := by decide +kernel
theorem dX6_keep_41 : decode cX6_keep 41 = .ok (.iadd, 1) := by decide +kernel
theorem dX6_keep_42 : decode cX6_keep 42 = .ok (.aload_n 0, 1) := by decide +kernel
theorem dX6_keep_43 : decode cX6_keep 43 = .ok (.getfield 16, 3) := by decide +kernel
theorem dX6_keep_46 : decode cX6_keep 46 = .ok (.iload_n 2, 1) := by decide +kernel
theorem dX6_keep_47 : decode cX6_keep 47 = .ok (.iaload, 1) := by decide +kernel
theorem dX6_keep_48 : decode cX6_keep 48 = .ok (.iastore, 1) := by decide +kernel
theorem dX6_keep_49 : decode cX6_keep 49 = .ok (.iinc 2 1, 3) := by decide +kernel
theorem dX6_keep_52 : decode cX6_keep 52 = .ok (.goto (-26), 3) := by decide +kernel
theorem dX6_keep_55 : decode cX6_keep 55 = .ok (.aload_n 0, 1) := by decide +kernel
theorem dX6_keep_56 : decode cX6_keep 56 = .ok (.aload_n 0, 1) := by decide +kernel
theorem dX6_keep_57 : decode cX6_keep 57 = .ok (.getfield 16, 3) := by decide +kernel
theorem dX6_keep_60 : decode cX6_keep 60 = .ok (.invokevirtual 132, 3) := by decide +kernel
theorem dX6_keep_63 : decode cX6_keep 63 = .ok (.invokestatic 139, 3) := by decide +kernel
theorem dX6_keep_66 : decode cX6_keep 66 = .ok (.ireturn, 1) := by decide +kernel
theorem dX6_again_0 : decode cX6_again 0 = .ok (.aload_n 0, 1) := by decide +kernel
theorem dX6_again_1 : decode cX6_again 1 = .ok (.iconst 0, 1) := by decide +kernel
theorem dX6_again_2 : decode cX6_again 2 = .ok (.putfield 45, 3) := by decide +kernel
theorem dX6_again_5 : decode cX6_again 5 = .ok (.iload_n 1, 1) := by decide +kernel
theorem dX6_again_6 : decode cX6_again 6 = .ok (.i2l, 1) := by decide +kernel
theorem dX6_again_7 : decode cX6_again 7 = .ok (.lconst 0, 1) := by decide +kernel
theorem dX6_again_8 : decode cX6_again 8 = .ok (.lconst 1, 1) := by decide +kernel
theorem dX6_again_9 : decode cX6_again 9 = .ok (.invokestatic 57, 3) := by decide +kernel
theorem dX6_again_12 : decode cX6_again 12 = .ok (.ifCond .ne 5, 3) := by decide +kernel
theorem dX6_again_15 : decode cX6_again 15 = .ok (.iconst (-1), 1) := by decide +kernel
theorem dX6_again_16 : decode cX6_again 16 = .ok (.ireturn, 1) := by decide +kernel
theorem dX6_again_17 : decode cX6_again 17 = .ok (.aload_n 0, 1) := by decide +kernel
theorem dX6_again_18 : decode cX6_again 18 = .ok (.getfield 28, 3) := by decide +kernel
theorem dX6_again_21 : decode cX6_again 21 = .ok (.iload_n 1, 1) := by decide +kernel
theorem dX6_again_22 : decode cX6_again 22 = .ok (.baload, 1) := by decide +kernel
theorem dX6_again_23 : decode cX6_again 23 = .ok (.ifCond .ne 6, 3) := by decide +kernel
theorem dX6_again_26 : decode cX6_again 26 = .ok (.bipush (-3), 2) := by decide +kernel
theorem dX6_again_28 : decode cX6_again 28 = .ok (.ireturn, 1) := by decide +kernel
theorem dX6_again_29 : decode cX6_again 29 = .ok (.iconst 0, 1) := by decide +kernel
theorem dX6_again_30 : decode cX6_again 30 = .ok (.istore_n 2, 1) := by decide +kernel
theorem dX6_again_31 : decode cX6_again 31 = .ok (.iload_n 2, 1) := by decide +kernel
theorem dX6_again_32 : decode cX6_again 32 = .ok (.bipush 67, 2) := by decide +kernel
theorem dX6_again_34 : decode cX6_again 34 = .ok (.if_icmp .ge 26, 3) := by decide +kernel
theorem dX6_again_37 : decode cX6_again 37 = .ok (.aload_n 0, 1) := by decide +kernel
theorem dX6_again_38 : decode cX6_again 38 = .ok (.getfield 16, 3) := by decide +kernel
theorem dX6_again_41 : decode cX6_again 41 = .ok (.iload_n 2, 1) := by decide +kernel
theorem dX6_again_42 : decode cX6_again 42 = .ok (.aload_n 0, 1) := by decide +kernel
theorem dX6_again_43 : decode cX6_again 43 = .ok (.getfield 25, 3) := by decide +kernel
theorem dX6_again_46 : decode cX6_again 46 = .ok (.bipush 67, 2) := by decide +kernel
theorem dX6_again_48 : decode cX6_again 48 = .ok (.iload_n 1, 1) := by decide +kernel
theorem dX6_again_49 : decode cX6_again 49 = .ok (.imul, 1) := by decide +kernel
theorem dX6_again_50 : decode cX6_again 50 = .ok (.iload_n 2, 1) := by decide +kernel
theorem dX6_again_51 : decode cX6_again 51 = .ok (.iadd, 1) := by decide +kernel
theorem dX6_again_52 : decode cX6_again 52 = .ok (.iaload, 1) := by decide +kernel
theorem dX6_again_53 : decode cX6_again 53 = .ok (.iastore, 1) := by decide +kernel
theorem dX6_again_54 : decode cX6_again 54 = .ok (.iinc 2 1, 3) := by decide +kernel
theorem dX6_again_57 : decode cX6_again 57 = .ok (.goto (-26), 3) := by decide +kernel
theorem dX6_again_60 : decode cX6_again 60 = .ok (.aload_n 0, 1) := by decide +kernel
theorem dX6_again_61 : decode cX6_again 61 = .ok (.iconst 0, 1) := by decide +kernel
theorem dX6_again_62 : decode cX6_again 62 = .ok (.putfield 78, 3) := by decide +kernel
theorem dX6_again_65 : decode cX6_again 65 = .ok (.aload_n 0, 1) := by decide +kernel
theorem dX6_again_66 : decode cX6_again 66 = .ok (.aload_n 0, 1) := by decide +kernel
theorem dX6_again_67 : decode cX6_again 67 = .ok (.getfield 16, 3) := by decide +kernel
theorem dX6_again_70 : decode cX6_again 70 = .ok (.invokevirtual 132, 3) := by decide +kernel
theorem dX6_again_73 : decode cX6_again 73 = .ok (.invokestatic 139, 3) := by decide +kernel
theorem dX6_again_76 : decode cX6_again 76 = .ok (.ireturn, 1) := by decide +kernel
