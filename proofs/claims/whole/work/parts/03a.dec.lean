theorem dX0_init_0 : decode cX0_init 0 = .ok (.aload_n 0, 1) := by decide +kernel
theorem dX0_init_1 : decode cX0_init 1 = .ok (.invokespecial 3, 3) := by decide +kernel
theorem dX0_init_4 : decode cX0_init 4 = .ok (.aload_n 0, 1) := by decide +kernel
theorem dX0_init_5 : decode cX0_init 5 = .ok (.bipush 14, 2) := by decide +kernel
theorem dX0_init_7 : decode cX0_init 7 = .ok (.newarray .int, 2) := by decide +kernel
theorem dX0_init_9 : decode cX0_init 9 = .ok (.putfield 9, 3) := by decide +kernel
theorem dX0_init_12 : decode cX0_init 12 = .ok (.aload_n 0, 1) := by decide +kernel
theorem dX0_init_13 : decode cX0_init 13 = .ok (.bipush 14, 2) := by decide +kernel
theorem dX0_init_15 : decode cX0_init 15 = .ok (.newarray .int, 2) := by decide +kernel
theorem dX0_init_17 : decode cX0_init 17 = .ok (.putfield 15, 3) := by decide +kernel
theorem dX0_init_20 : decode cX0_init 20 = .ok (.aload_n 0, 1) := by decide +kernel
theorem dX0_init_21 : decode cX0_init 21 = .ok (.bipush 14, 2) := by decide +kernel
theorem dX0_init_23 : decode cX0_init 23 = .ok (.newarray .int, 2) := by decide +kernel
theorem dX0_init_25 : decode cX0_init 25 = .ok (.putfield 18, 3) := by decide +kernel
theorem dX0_init_28 : decode cX0_init 28 = .ok (.aload_n 0, 1) := by decide +kernel
theorem dX0_init_29 : decode cX0_init 29 = .ok (.bipush 14, 2) := by decide +kernel
theorem dX0_init_31 : decode cX0_init 31 = .ok (.newarray .int, 2) := by decide +kernel
theorem dX0_init_33 : decode cX0_init 33 = .ok (.putfield 21, 3) := by decide +kernel
theorem dX0_init_36 : decode cX0_init 36 = .ok (.aload_n 0, 1) := by decide +kernel
theorem dX0_init_37 : decode cX0_init 37 = .ok (.iconst 0, 1) := by decide +kernel
theorem dX0_init_38 : decode cX0_init 38 = .ok (.putfield 24, 3) := by decide +kernel
theorem dX0_init_41 : decode cX0_init 41 = .ok (.return_, 1) := by decide +kernel
theorem dX0_size_0 : decode cX0_size 0 = .ok (.aload_n 0, 1) := by decide +kernel
theorem dX0_size_1 : decode cX0_size 1 = .ok (.getfield 24, 3) := by decide +kernel
theorem dX0_size_4 : decode cX0_size 4 = .ok (.ireturn, 1) := by decide +kernel
theorem dX0_forgetAll_0 : decode cX0_forgetAll 0 = .ok (.aload_n 0, 1) := by decide +kernel
theorem dX0_forgetAll_1 : decode cX0_forgetAll 1 = .ok (.iconst 0, 1) := by decide +kernel
theorem dX0_forgetAll_2 : decode cX0_forgetAll 2 = .ok (.putfield 24, 3) := by decide +kernel
theorem dX0_forgetAll_5 : decode cX0_forgetAll 5 = .ok (.return_, 1) := by decide +kernel
theorem dX0_add_0 : decode cX0_add 0 = .ok (.aload_n 0, 1) := by decide +kernel
theorem dX0_add_1 : decode cX0_add 1 = .ok (.getfield 24, 3) := by decide +kernel
theorem dX0_add_4 : decode cX0_add 4 = .ok (.bipush 14, 2) := by decide +kernel
theorem dX0_add_6 : decode cX0_add 6 = .ok (.if_icmp .lt 7, 3) := by decide +kernel
theorem dX0_add_9 : decode cX0_add 9 = .ok (.aload_n 0, 1) := by decide +kernel
theorem dX0_add_10 : decode cX0_add 10 = .ok (.invokevirtual 28, 3) := by decide +kernel
theorem dX0_add_13 : decode cX0_add 13 = .ok (.aload_n 0, 1) := by decide +kernel
theorem dX0_add_14 : decode cX0_add 14 = .ok (.getfield 9, 3) := by decide +kernel
theorem dX0_add_17 : decode cX0_add 17 = .ok (.aload_n 0, 1) := by decide +kernel
theorem dX0_add_18 : decode cX0_add 18 = .ok (.getfield 24, 3) := by decide +kernel
theorem dX0_add_21 : decode cX0_add 21 = .ok (.iload_n 1, 1) := by decide +kernel
theorem dX0_add_22 : decode cX0_add 22 = .ok (.iastore, 1) := by decide +kernel
theorem dX0_add_23 : decode cX0_add 23 = .ok (.aload_n 0, 1) := by decide +kernel
theorem dX0_add_24 : decode cX0_add 24 = .ok (.getfield 15, 3) := by decide +kernel
theorem dX0_add_27 : decode cX0_add 27 = .ok (.aload_n 0, 1) := by decide +kernel
theorem dX0_add_28 : decode cX0_add 28 = .ok (.getfield 24, 3) := by decide +kernel
theorem dX0_add_31 : decode cX0_add 31 = .ok (.iload_n 2, 1) := by decide +kernel
theorem dX0_add_32 : decode cX0_add 32 = .ok (.iastore, 1) := by decide +kernel
theorem dX0_add_33 : decode cX0_add 33 = .ok (.aload_n 0, 1) := by decide +kernel
theorem dX0_add_34 : decode cX0_add 34 = .ok (.getfield 18, 3) := by decide +kernel
theorem dX0_add_37 : decode cX0_add 37 = .ok (.aload_n 0, 1) := by decide +kernel
theorem dX0_add_38 : decode cX0_add 38 = .ok (.getfield 24, 3) := by decide +kernel
theorem dX0_add_41 : decode cX0_add 41 = .ok (.iload_n 3, 1) := by decide +kernel
theorem dX0_add_42 : decode cX0_add 42 = .ok (.iastore, 1) := by decide +kernel
theorem dX0_add_43 : decode cX0_add 43 = .ok (.aload_n 0, 1) := by decide +kernel
theorem dX0_add_44 : decode cX0_add 44 = .ok (.getfield 21, 3) := by decide +kernel
theorem dX0_add_47 : decode cX0_add 47 = .ok (.aload_n 0, 1) := by decide +kernel
theorem dX0_add_48 : decode cX0_add 48 = .ok (.getfield 24, 3) := by decide +kernel
theorem dX0_add_51 : decode cX0_add 51 = .ok (.iload 4, 2) := by decide +kernel
theorem dX0_add_53 : decode cX0_add 53 = .ok (.iastore, 1) := by decide +kernel
theorem dX0_add_54 : decode cX0_add 54 = .ok (.aload_n 0, 1) := by decide +kernel
theorem dX0_add_55 : decode cX0_add 55 = .ok (.dup, 1) := by decide +kernel
theorem dX0_add_56 : decode cX0_add 56 = .ok (.getfield 24, 3) := by decide +kernel
theorem dX0_add_59 : decode cX0_add 59 = .ok (.iconst 1, 1) := by decide +kernel
theorem dX0_add_60 : decode cX0_add 60 = .ok (.iadd, 1) := by decide +kernel
theorem dX0_add_61 : decode cX0_add 61 = .ok (.putfield 24, 3) := by decide +kernel
theorem dX0_add_64 : decode cX0_add 64 = .ok (.return_, 1) := by decide +kernel
theorem dX0_forgetFirst_0 : decode cX0_forgetFirst 0 = .ok (.aload_n 0, 1) := by decide +kernel
theorem dX0_forgetFirst_1 : decode cX0_forgetFirst 1 = .ok (.bipush 13, 2) := by decide +kernel
theorem dX0_forgetFirst_3 : decode cX0_forgetFirst 3 = .ok (.putfield 24, 3) := by decide +kernel
theorem dX0_forgetFirst_6 : decode cX0_forgetFirst 6 = .ok (.aload_n 0, 1) := by decide +kernel
theorem dX0_forgetFirst_7 : decode cX0_forgetFirst 7 = .ok (.getfield 9, 3) := by decide +kernel
theorem dX0_forgetFirst_10 : decode cX0_forgetFirst 10 = .ok (.iconst 1, 1) := by decide +kernel
theorem dX0_forgetFirst_11 : decode cX0_forgetFirst 11 = .ok (.aload_n 0, 1) := by decide +kernel
theorem dX0_forgetFirst_12 : decode cX0_forgetFirst 12 = .ok (.getfield 9, 3) := by decide +kernel
theorem dX0_forgetFirst_15 : decode cX0_forgetFirst 15 = .ok (.iconst 0, 1) := by decide +kernel
theorem dX0_forgetFirst_16 : decode cX0_forgetFirst 16 = .ok (.aload_n 0, 1) := by decide +kernel
theorem dX0_forgetFirst_17 : decode cX0_forgetFirst 17 = .ok (.getfield 24, 3) := by decide +kernel
theorem dX0_forgetFirst_20 : decode cX0_forgetFirst 20 = .ok (.invokestatic 31, 3) := by decide +kernel
theorem dX0_forgetFirst_23 : decode cX0_forgetFirst 23 = .ok (.aload_n 0, 1) := by decide +kernel
theorem dX0_forgetFirst_24 : decode cX0_forgetFirst 24 = .ok (.getfield 15, 3) := by decide +kernel
theorem dX0_forgetFirst_27 : decode cX0_forgetFirst 27 = .ok (.iconst 1, 1) := by decide +kernel
theorem dX0_forgetFirst_28 : decode cX0_forgetFirst 28 = .ok (.aload_n 0, 1) := by decide +kernel
theorem dX0_forgetFirst_29 : decode cX0_forgetFirst 29 = .ok (.getfield 15, 3) := by decide +kernel
theorem dX0_forgetFirst_32 : decode cX0_forgetFirst 32 = .ok (.iconst 0, 1) := by decide +kernel
theorem dX0_forgetFirst_33 : decode cX0_forgetFirst 33 = .ok (.aload_n 0, 1) := by decide +kernel
theorem dX0_forgetFirst_34 : decode cX0_forgetFirst 34 = .ok (.getfield 24, 3) := by decide +kernel
theorem dX0_forgetFirst_37 : decode cX0_forgetFirst 37 = .ok (.invokestatic 31, 3) := by decide +kernel
theorem dX0_forgetFirst_40 : decode cX0_forgetFirst 40 = .ok (.aload_n 0, 1) := by decide +kernel
theorem dX0_forgetFirst_41 : decode cX0_forgetFirst 41 = .ok (.getfield 18, 3) := by decide +kernel
theorem dX0_forgetFirst_44 : decode cX0_forgetFirst 44 = .ok (.iconst 1, 1) := by decide +kernel
theorem dX0_forgetFirst_45 : decode cX0_forgetFirst 45 = .ok (.aload_n 0, 1) := by decide +kernel
theorem dX0_forgetFirst_46 : decode cX0_forgetFirst 46 = .ok (.getfield 18, 3) := by decide +kernel
theorem dX0_forgetFirst_49 : decode cX0_forgetFirst 49 = .ok (.iconst 0, 1) := by decide +kernel
theorem dX0_forgetFirst_50 : decode cX0_forgetFirst 50 = .ok (.aload_n 0, 1) := by decide +kernel
theorem dX0_forgetFirst_51 : decode cX0_forgetFirst 51 = .ok (.getfield 24, 3) := by decide +kernel
theorem dX0_forgetFirst_54 : decode cX0_forgetFirst 54 = .ok (.invokestatic 31, 3) := by decide +kernel
theorem dX0_forgetFirst_57 : decode cX0_forgetFirst 57 = .ok (.aload_n 0, 1) := by decide +kernel
theorem dX0_forgetFirst_58 : decode cX0_forgetFirst 58 = .ok (.getfield 21, 3) := by decide +kernel
theorem dX0_forgetFirst_61 : decode cX0_forgetFirst 61 = .ok (.iconst 1, 1) := by decide +kernel
theorem dX0_forgetFirst_62 : decode cX0_forgetFirst 62 = .ok (.aload_n 0, 1) := by decide +kernel
theorem dX0_forgetFirst_63 : decode cX0_forgetFirst 63 = .ok (.getfield 21, 3) := by decide +kernel
theorem dX0_forgetFirst_66 : decode cX0_forgetFirst 66 = .ok (.iconst 0, 1) := by decide +kernel
theorem dX0_forgetFirst_67 : decode cX0_forgetFirst 67 = .ok (.aload_n 0, 1) := by decide +kernel
theorem dX0_forgetFirst_68 : decode cX0_forgetFirst 68 = .ok (.getfield 24, 3) := by decide +kernel
theorem dX0_forgetFirst_71 : decode cX0_forgetFirst 71 = .ok (.invokestatic 31, 3) := by decide +kernel
theorem dX0_forgetFirst_74 : decode cX0_forgetFirst 74 = .ok (.return_, 1) := by decide +kernel
theorem dX0_takeBackLast_0 : decode cX0_takeBackLast 0 = .ok (.aload_n 0, 1) := by decide +kernel
theorem dX0_takeBackLast_1 : decode cX0_takeBackLast 1 = .ok (.getfield 24, 3) := by decide +kernel
theorem dX0_takeBackLast_4 : decode cX0_takeBackLast 4 = .ok (.ifCond .le 45, 3) := by decide +kernel
theorem dX0_takeBackLast_7 : decode cX0_takeBackLast 7 = .ok (.aload_n 0, 1) := by decide +kernel
theorem dX0_takeBackLast_8 : decode cX0_takeBackLast 8 = .ok (.dup, 1) := by decide +kernel
theorem dX0_takeBackLast_9 : decode cX0_takeBackLast 9 = .ok (.getfield 24, 3) := by decide +kernel
theorem dX0_takeBackLast_12 : decode cX0_takeBackLast 12 = .ok (.iconst 1, 1) := by decide +kernel
theorem dX0_takeBackLast_13 : decode cX0_takeBackLast 13 = .ok (.isub, 1) := by decide +kernel
theorem dX0_takeBackLast_14 : decode cX0_takeBackLast 14 = .ok (.putfield 24, 3) := by decide +kernel
theorem dX0_takeBackLast_17 : decode cX0_takeBackLast 17 = .ok (.aload_n 0, 1) := by decide +kernel
theorem dX0_takeBackLast_18 : decode cX0_takeBackLast 18 = .ok (.aload_n 1, 1) := by decide +kernel
theorem dX0_takeBackLast_19 : decode cX0_takeBackLast 19 = .ok (.aload_n 0, 1) := by decide +kernel
theorem dX0_takeBackLast_20 : decode cX0_takeBackLast 20 = .ok (.getfield 15, 3) := by decide +kernel
theorem dX0_takeBackLast_23 : decode cX0_takeBackLast 23 = .ok (.aload_n 0, 1) := by decide +kernel
theorem dX0_takeBackLast_24 : decode cX0_takeBackLast 24 = .ok (.getfield 24, 3) := by decide +kernel
theorem dX0_takeBackLast_27 : decode cX0_takeBackLast 27 = .ok (.iaload, 1) := by decide +kernel
theorem dX0_takeBackLast_28 : decode cX0_takeBackLast 28 = .ok (.aload_n 0, 1) := by decide +kernel
theorem dX0_takeBackLast_29 : decode cX0_takeBackLast 29 = .ok (.getfield 18, 3) := by decide +kernel
theorem dX0_takeBackLast_32 : decode cX0_takeBackLast 32 = .ok (.aload_n 0, 1) := by decide +kernel
theorem dX0_takeBackLast_33 : decode cX0_takeBackLast 33 = .ok (.getfield 24, 3) := by decide +kernel
theorem dX0_takeBackLast_36 : decode cX0_takeBackLast 36 = .ok (.iaload, 1) := by decide +kernel
theorem dX0_takeBackLast_37 : decode cX0_takeBackLast 37 = .ok (.aload_n 0, 1) := by decide +kernel
theorem dX0_takeBackLast_38 : decode cX0_takeBackLast 38 = .ok (.getfield 21, 3) := by decide +kernel
theorem dX0_takeBackLast_41 : decode cX0_takeBackLast 41 = .ok (.aload_n 0, 1) := by decide +kernel
theorem dX0_takeBackLast_42 : decode cX0_takeBackLast 42 = .ok (.getfield 24, 3) := by decide +kernel
theorem dX0_takeBackLast_45 : decode cX0_takeBackLast 45 = .ok (.iaload, 1) := by decide +kernel
theorem dX0_takeBackLast_46 : decode cX0_takeBackLast 46 = .ok (.invokevirtual 37, 3) := by decide +kernel
theorem dX0_takeBackLast_49 : decode cX0_takeBackLast 49 = .ok (.aload_n 0, 1) := by decide +kernel
theorem dX0_takeBackLast_50 : decode cX0_takeBackLast 50 = .ok (.getfield 24, 3) := by decide +kernel
theorem dX0_takeBackLast_53 : decode cX0_takeBackLast 53 = .ok (.ireturn, 1) := by decide +kernel
theorem dX0_takeBack_0 : decode cX0_takeBack 0 = .ok (.aload_n 0, 1) := by decide +kernel
theorem dX0_takeBack_1 : decode cX0_takeBack 1 = .ok (.getfield 9, 3) := by decide +kernel
theorem dX0_takeBack_4 : decode cX0_takeBack 4 = .ok (.aload_n 0, 1) := by decide +kernel
theorem dX0_takeBack_5 : decode cX0_takeBack 5 = .ok (.getfield 24, 3) := by decide +kernel
theorem dX0_takeBack_8 : decode cX0_takeBack 8 = .ok (.iaload, 1) := by decide +kernel
theorem dX0_takeBack_9 : decode cX0_takeBack 9 = .ok (.tableswitch 71 1 4 #[31, 42, 51, 62], 31) := by decide +kernel
theorem dX0_takeBack_40 : decode cX0_takeBack 40 = .ok (.aload_n 1, 1) := by decide +kernel
theorem dX0_takeBack_41 : decode cX0_takeBack 41 = .ok (.iload_n 2, 1) := by decide +kernel
theorem dX0_takeBack_42 : decode cX0_takeBack 42 = .ok (.iload_n 3, 1) := by decide +kernel
theorem dX0_takeBack_43 : decode cX0_takeBack 43 = .ok (.iload 4, 2) := by decide +kernel
theorem dX0_takeBack_45 : decode cX0_takeBack 45 = .ok (.invokevirtual 41, 3) := by decide +kernel
theorem dX0_takeBack_48 : decode cX0_takeBack 48 = .ok (.goto 38, 3) := by decide +kernel
theorem dX0_takeBack_51 : decode cX0_takeBack 51 = .ok (.aload_n 1, 1) := by decide +kernel
theorem dX0_takeBack_52 : decode cX0_takeBack 52 = .ok (.iload_n 2, 1) := by decide +kernel
theorem dX0_takeBack_53 : decode cX0_takeBack 53 = .ok (.ineg, 1) := by decide +kernel
theorem dX0_takeBack_54 : decode cX0_takeBack 54 = .ok (.invokevirtual 47, 3) := by decide +kernel
theorem dX0_takeBack_57 : decode cX0_takeBack 57 = .ok (.goto 29, 3) := by decide +kernel
theorem dX0_takeBack_60 : decode cX0_takeBack 60 = .ok (.aload_n 1, 1) := by decide +kernel
theorem dX0_takeBack_61 : decode cX0_takeBack 61 = .ok (.iload_n 2, 1) := by decide +kernel
theorem dX0_takeBack_62 : decode cX0_takeBack 62 = .ok (.iload_n 3, 1) := by decide +kernel
theorem dX0_takeBack_63 : decode cX0_takeBack 63 = .ok (.iload 4, 2) := by decide +kernel
theorem dX0_takeBack_65 : decode cX0_takeBack 65 = .ok (.invokevirtual 51, 3) := by decide +kernel
theorem dX0_takeBack_68 : decode cX0_takeBack 68 = .ok (.goto 18, 3) := by decide +kernel
theorem dX0_takeBack_71 : decode cX0_takeBack 71 = .ok (.aload_n 1, 1) := by decide +kernel
theorem dX0_takeBack_72 : decode cX0_takeBack 72 = .ok (.iload_n 2, 1) := by decide +kernel
theorem dX0_takeBack_73 : decode cX0_takeBack 73 = .ok (.iload_n 3, 1) := by decide +kernel
theorem dX0_takeBack_74 : decode cX0_takeBack 74 = .ok (.invokevirtual 54, 3) := by decide +kernel
theorem dX0_takeBack_77 : decode cX0_takeBack 77 = .ok (.goto 9, 3) := by decide +kernel
theorem dX0_takeBack_80 : decode cX0_takeBack 80 = .ok (.aload_n 1, 1) := by decide +kernel
theorem dX0_takeBack_81 : decode cX0_takeBack 81 = .ok (.iload_n 2, 1) := by decide +kernel
theorem dX0_takeBack_82 : decode cX0_takeBack 82 = .ok (.iload_n 3, 1) := by decide +kernel
theorem dX0_takeBack_83 : decode cX0_takeBack 83 = .ok (.invokevirtual 58, 3) := by decide +kernel
theorem dX0_takeBack_86 : decode cX0_takeBack 86 = .ok (.return_, 1) := by decide +kernel
theorem dX1_init_0 : decode cX1_init 0 = .ok (.aload_n 0, 1) := by decide +kernel
theorem dX1_init_1 : decode cX1_init 1 = .ok (.invokespecial 3, 3) := by decide +kernel
theorem dX1_init_4 : decode cX1_init 4 = .ok (.aload_n 0, 1) := by decide +kernel
theorem dX1_init_5 : decode cX1_init 5 = .ok (.bipush 25, 2) := by decide +kernel
theorem dX1_init_7 : decode cX1_init 7 = .ok (.newarray .int, 2) := by decide +kernel
theorem dX1_init_9 : decode cX1_init 9 = .ok (.putfield 9, 3) := by decide +kernel
theorem dX1_init_12 : decode cX1_init 12 = .ok (.aload_n 0, 1) := by decide +kernel
theorem dX1_init_13 : decode cX1_init 13 = .ok (.bipush 25, 2) := by decide +kernel
theorem dX1_init_15 : decode cX1_init 15 = .ok (.newarray .int, 2) := by decide +kernel
theorem dX1_init_17 : decode cX1_init 17 = .ok (.putfield 15, 3) := by decide +kernel
theorem dX1_init_20 : decode cX1_init 20 = .ok (.aload_n 0, 1) := by decide +kernel
theorem dX1_init_21 : decode cX1_init 21 = .ok (.bipush 25, 2) := by decide +kernel
theorem dX1_init_23 : decode cX1_init 23 = .ok (.newarray .int, 2) := by decide +kernel
theorem dX1_init_25 : decode cX1_init 25 = .ok (.putfield 18, 3) := by decide +kernel
theorem dX1_init_28 : decode cX1_init 28 = .ok (.aload_n 0, 1) := by decide +kernel
theorem dX1_init_29 : decode cX1_init 29 = .ok (.bipush 25, 2) := by decide +kernel
theorem dX1_init_31 : decode cX1_init 31 = .ok (.newarray .int, 2) := by decide +kernel
theorem dX1_init_33 : decode cX1_init 33 = .ok (.putfield 21, 3) := by decide +kernel
theorem dX1_init_36 : decode cX1_init 36 = .ok (.aload_n 0, 1) := by decide +kernel
theorem dX1_init_37 : decode cX1_init 37 = .ok (.bipush 25, 2) := by decide +kernel
theorem dX1_init_39 : decode cX1_init 39 = .ok (.newarray .int, 2) := by decide +kernel
theorem dX1_init_41 : decode cX1_init 41 = .ok (.putfield 24, 3) := by decide +kernel
theorem dX1_init_44 : decode cX1_init 44 = .ok (.aload_n 0, 1) := by decide +kernel
theorem dX1_init_45 : decode cX1_init 45 = .ok (.iconst 0, 1) := by decide +kernel
theorem dX1_init_46 : decode cX1_init 46 = .ok (.putfield 27, 3) := by decide +kernel
theorem dX1_init_49 : decode cX1_init 49 = .ok (.aload_n 0, 1) := by decide +kernel
theorem dX1_init_50 : decode cX1_init 50 = .ok (.iconst 0, 1) := by decide +kernel
theorem dX1_init_51 : decode cX1_init 51 = .ok (.putfield 31, 3) := by decide +kernel
theorem dX1_init_54 : decode cX1_init 54 = .ok (.return_, 1) := by decide +kernel
theorem dX1_howMany_0 : decode cX1_howMany 0 = .ok (.aload_n 0, 1) := by decide +kernel
theorem dX1_howMany_1 : decode cX1_howMany 1 = .ok (.aload_n 1, 1) := by decide +kernel
theorem dX1_howMany_2 : decode cX1_howMany 2 = .ok (.aload_n 1, 1) := by decide +kernel
theorem dX1_howMany_3 : decode cX1_howMany 3 = .ok (.getfield 34, 3) := by decide +kernel
theorem dX1_howMany_6 : decode cX1_howMany 6 = .ok (.invokevirtual 39, 3) := by decide +kernel
theorem dX1_howMany_9 : decode cX1_howMany 9 = .ok (.aload_n 0, 1) := by decide +kernel
theorem dX1_howMany_10 : decode cX1_howMany 10 = .ok (.aload_n 1, 1) := by decide +kernel
theorem dX1_howMany_11 : decode cX1_howMany 11 = .ok (.getfield 43, 3) := by decide +kernel
theorem dX1_howMany_14 : decode cX1_howMany 14 = .ok (.iload_n 2, 1) := by decide +kernel
theorem dX1_howMany_15 : decode cX1_howMany 15 = .ok (.invokevirtual 46, 3) := by decide +kernel
theorem dX1_howMany_18 : decode cX1_howMany 18 = .ok (.invokestatic 50, 3) := by decide +kernel
theorem dX1_howMany_21 : decode cX1_howMany 21 = .ok (.ireturn, 1) := by decide +kernel
theorem dX1_look_0 : decode cX1_look 0 = .ok (.aload_n 0, 1) := by decide +kernel
theorem dX1_look_1 : decode cX1_look 1 = .ok (.aload_n 1, 1) := by decide +kernel
theorem dX1_look_2 : decode cX1_look 2 = .ok (.invokevirtual 56, 3) := by decide +kernel
theorem dX1_look_5 : decode cX1_look 5 = .ok (.putfield 31, 3) := by decide +kernel
theorem dX1_look_8 : decode cX1_look 8 = .ok (.iconst 0, 1) := by decide +kernel
theorem dX1_look_9 : decode cX1_look 9 = .ok (.istore_n 3, 1) := by decide +kernel
theorem dX1_look_10 : decode cX1_look 10 = .ok (.iload_n 3, 1) := by decide +kernel
theorem dX1_look_11 : decode cX1_look 11 = .ok (.aload_n 0, 1) := by decide +kernel
theorem dX1_look_12 : decode cX1_look 12 = .ok (.getfield 31, 3) := by decide +kernel
theorem dX1_look_15 : decode cX1_look 15 = .ok (.if_icmp .ge 16, 3) := by decide +kernel
theorem dX1_look_18 : decode cX1_look 18 = .ok (.aload_n 0, 1) := by decide +kernel
theorem dX1_look_19 : decode cX1_look 19 = .ok (.aload_n 1, 1) := by decide +kernel
theorem dX1_look_20 : decode cX1_look 20 = .ok (.iload_n 3, 1) := by decide +kernel
theorem dX1_look_21 : decode cX1_look 21 = .ok (.iload_n 2, 1) := by decide +kernel
theorem dX1_look_22 : decode cX1_look 22 = .ok (.invokevirtual 59, 3) := by decide +kernel
theorem dX1_look_25 : decode cX1_look 25 = .ok (.iinc 3 1, 3) := by decide +kernel
theorem dX1_look_28 : decode cX1_look 28 = .ok (.goto (-18), 3) := by decide +kernel
theorem dX1_look_31 : decode cX1_look 31 = .ok (.return_, 1) := by decide +kernel
theorem dX1_lookAt_0 : decode cX1_lookAt 0 = .ok (.aload_n 1, 1) := by decide +kernel
theorem dX1_lookAt_1 : decode cX1_lookAt 1 = .ok (.iload_n 2, 1) := by decide +kernel
theorem dX1_lookAt_2 : decode cX1_lookAt 2 = .ok (.invokevirtual 63, 3) := by decide +kernel
theorem dX1_lookAt_5 : decode cX1_lookAt 5 = .ok (.ifCond .ne 4, 3) := by decide +kernel
theorem dX1_lookAt_8 : decode cX1_lookAt 8 = .ok (.return_, 1) := by decide +kernel
theorem dX1_lookAt_9 : decode cX1_lookAt 9 = .ok (.aload_n 0, 1) := by decide +kernel
theorem dX1_lookAt_10 : decode cX1_lookAt 10 = .ok (.aload_n 1, 1) := by decide +kernel
theorem dX1_lookAt_11 : decode cX1_lookAt 11 = .ok (.getfield 67, 3) := by decide +kernel
theorem dX1_lookAt_14 : decode cX1_lookAt 14 = .ok (.putfield 27, 3) := by decide +kernel
theorem dX1_lookAt_17 : decode cX1_lookAt 17 = .ok (.aload_n 0, 1) := by decide +kernel
theorem dX1_lookAt_18 : decode cX1_lookAt 18 = .ok (.getfield 21, 3) := by decide +kernel
theorem dX1_lookAt_21 : decode cX1_lookAt 21 = .ok (.iload_n 2, 1) := by decide +kernel
theorem dX1_lookAt_22 : decode cX1_lookAt 22 = .ok (.aload_n 1, 1) := by decide +kernel
theorem dX1_lookAt_23 : decode cX1_lookAt 23 = .ok (.iconst 0, 1) := by decide +kernel
theorem dX1_lookAt_24 : decode cX1_lookAt 24 = .ok (.iload_n 2, 1) := by decide +kernel
theorem dX1_lookAt_25 : decode cX1_lookAt 25 = .ok (.invokevirtual 68, 3) := by decide +kernel
theorem dX1_lookAt_28 : decode cX1_lookAt 28 = .ok (.iastore, 1) := by decide +kernel
theorem dX1_lookAt_29 : decode cX1_lookAt 29 = .ok (.aload_n 0, 1) := by decide +kernel
theorem dX1_lookAt_30 : decode cX1_lookAt 30 = .ok (.getfield 24, 3) := by decide +kernel
theorem dX1_lookAt_33 : decode cX1_lookAt 33 = .ok (.iload_n 2, 1) := by decide +kernel
theorem dX1_lookAt_34 : decode cX1_lookAt 34 = .ok (.aload_n 1, 1) := by decide +kernel
theorem dX1_lookAt_35 : decode cX1_lookAt 35 = .ok (.iload_n 2, 1) := by decide +kernel
theorem dX1_lookAt_36 : decode cX1_lookAt 36 = .ok (.invokevirtual 71, 3) := by decide +kernel
theorem dX1_lookAt_39 : decode cX1_lookAt 39 = .ok (.iastore, 1) := by decide +kernel
theorem dX1_lookAt_40 : decode cX1_lookAt 40 = .ok (.aload_n 1, 1) := by decide +kernel
theorem dX1_lookAt_41 : decode cX1_lookAt 41 = .ok (.iload_n 2, 1) := by decide +kernel
theorem dX1_lookAt_42 : decode cX1_lookAt 42 = .ok (.invokevirtual 74, 3) := by decide +kernel
theorem dX1_lookAt_45 : decode cX1_lookAt 45 = .ok (.istore 4, 2) := by decide +kernel
theorem dX1_lookAt_47 : decode cX1_lookAt 47 = .ok (.aload_n 1, 1) := by decide +kernel
theorem dX1_lookAt_48 : decode cX1_lookAt 48 = .ok (.iload_n 2, 1) := by decide +kernel
theorem dX1_lookAt_49 : decode cX1_lookAt 49 = .ok (.invokevirtual 77, 3) := by decide +kernel
theorem dX1_lookAt_52 : decode cX1_lookAt 52 = .ok (.istore 5, 2) := by decide +kernel
theorem dX1_lookAt_54 : decode cX1_lookAt 54 = .ok (.iconst 0, 1) := by decide +kernel
theorem dX1_lookAt_55 : decode cX1_lookAt 55 = .ok (.iload 4, 2) := by decide +kernel
theorem dX1_lookAt_57 : decode cX1_lookAt 57 = .ok (.iload_n 3, 1) := by decide +kernel
theorem dX1_lookAt_58 : decode cX1_lookAt 58 = .ok (.isub, 1) := by decide +kernel
theorem dX1_lookAt_59 : decode cX1_lookAt 59 = .ok (.invokestatic 80, 3) := by decide +kernel
theorem dX1_lookAt_62 : decode cX1_lookAt 62 = .ok (.istore 6, 2) := by decide +kernel
theorem dX1_lookAt_64 : decode cX1_lookAt 64 = .ok (.aload_n 1, 1) := by decide +kernel
theorem dX1_lookAt_65 : decode cX1_lookAt 65 = .ok (.getfield 85, 3) := by decide +kernel
theorem dX1_lookAt_68 : decode cX1_lookAt 68 = .ok (.iconst 1, 1) := by decide +kernel
theorem dX1_lookAt_69 : decode cX1_lookAt 69 = .ok (.isub, 1) := by decide +kernel
theorem dX1_lookAt_70 : decode cX1_lookAt 70 = .ok (.iload 4, 2) := by decide +kernel
theorem dX1_lookAt_72 : decode cX1_lookAt 72 = .ok (.iload_n 3, 1) := by decide +kernel
theorem dX1_lookAt_73 : decode cX1_lookAt 73 = .ok (.iadd, 1) := by decide +kernel
theorem dX1_lookAt_74 : decode cX1_lookAt 74 = .ok (.invokestatic 88, 3) := by decide +kernel
theorem dX1_lookAt_77 : decode cX1_lookAt 77 = .ok (.istore 7, 2) := by decide +kernel
theorem dX1_lookAt_79 : decode cX1_lookAt 79 = .ok (.iconst 0, 1) := by decide +kernel
theorem dX1_lookAt_80 : decode cX1_lookAt 80 = .ok (.iload 5, 2) := by decide +kernel
theorem dX1_lookAt_82 : decode cX1_lookAt 82 = .ok (.iload_n 3, 1) := by decide +kernel
theorem dX1_lookAt_83 : decode cX1_lookAt 83 = .ok (.isub, 1) := by decide +kernel
theorem dX1_lookAt_84 : decode cX1_lookAt 84 = .ok (.invokestatic 80, 3) := by decide +kernel
theorem dX1_lookAt_87 : decode cX1_lookAt 87 = .ok (.istore 8, 2) := by decide +kernel
theorem dX1_lookAt_89 : decode cX1_lookAt 89 = .ok (.aload_n 1, 1) := by decide +kernel
theorem dX1_lookAt_90 : decode cX1_lookAt 90 = .ok (.getfield 91, 3) := by decide +kernel
theorem dX1_lookAt_93 : decode cX1_lookAt 93 = .ok (.iconst 1, 1) := by decide +kernel
theorem dX1_lookAt_94 : decode cX1_lookAt 94 = .ok (.isub, 1) := by decide +kernel
theorem dX1_lookAt_95 : decode cX1_lookAt 95 = .ok (.iload 5, 2) := by decide +kernel
theorem dX1_lookAt_97 : decode cX1_lookAt 97 = .ok (.iload_n 3, 1) := by decide +kernel
theorem dX1_lookAt_98 : decode cX1_lookAt 98 = .ok (.iadd, 1) := by decide +kernel
theorem dX1_lookAt_99 : decode cX1_lookAt 99 = .ok (.invokestatic 88, 3) := by decide +kernel
theorem dX1_lookAt_102 : decode cX1_lookAt 102 = .ok (.istore 9, 2) := by decide +kernel
theorem dX1_lookAt_104 : decode cX1_lookAt 104 = .ok (.aload_n 0, 1) := by decide +kernel
theorem dX1_lookAt_105 : decode cX1_lookAt 105 = .ok (.getfield 9, 3) := by decide +kernel
theorem dX1_lookAt_108 : decode cX1_lookAt 108 = .ok (.iload_n 2, 1) := by decide +kernel
theorem dX1_lookAt_109 : decode cX1_lookAt 109 = .ok (.iload 7, 2) := by decide +kernel
theorem dX1_lookAt_111 : decode cX1_lookAt 111 = .ok (.iload 6, 2) := by decide +kernel
theorem dX1_lookAt_113 : decode cX1_lookAt 113 = .ok (.isub, 1) := by decide +kernel
theorem dX1_lookAt_114 : decode cX1_lookAt 114 = .ok (.iconst 1, 1) := by decide +kernel
theorem dX1_lookAt_115 : decode cX1_lookAt 115 = .ok (.iadd, 1) := by decide +kernel
theorem dX1_lookAt_116 : decode cX1_lookAt 116 = .ok (.iload 9, 2) := by decide +kernel
theorem dX1_lookAt_118 : decode cX1_lookAt 118 = .ok (.iload 8, 2) := by decide +kernel
theorem dX1_lookAt_120 : decode cX1_lookAt 120 = .ok (.isub, 1) := by decide +kernel
theorem dX1_lookAt_121 : decode cX1_lookAt 121 = .ok (.iconst 1, 1) := by decide +kernel
theorem dX1_lookAt_122 : decode cX1_lookAt 122 = .ok (.iadd, 1) := by decide +kernel
theorem dX1_lookAt_123 : decode cX1_lookAt 123 = .ok (.imul, 1) := by decide +kernel
theorem dX1_lookAt_124 : decode cX1_lookAt 124 = .ok (.iastore, 1) := by decide +kernel
theorem dX1_lookAt_125 : decode cX1_lookAt 125 = .ok (.aload_n 0, 1) := by decide +kernel
theorem dX1_lookAt_126 : decode cX1_lookAt 126 = .ok (.getfield 15, 3) := by decide +kernel
theorem dX1_lookAt_129 : decode cX1_lookAt 129 = .ok (.iload_n 2, 1) := by decide +kernel
theorem dX1_lookAt_130 : decode cX1_lookAt 130 = .ok (.iconst 0, 1) := by decide +kernel
theorem dX1_lookAt_131 : decode cX1_lookAt 131 = .ok (.iastore, 1) := by decide +kernel
theorem dX1_lookAt_132 : decode cX1_lookAt 132 = .ok (.aload_n 0, 1) := by decide +kernel
theorem dX1_lookAt_133 : decode cX1_lookAt 133 = .ok (.getfield 18, 3) := by decide +kernel
theorem dX1_lookAt_136 : decode cX1_lookAt 136 = .ok (.iload_n 2, 1) := by decide +kernel
theorem dX1_lookAt_137 : decode cX1_lookAt 137 = .ok (.iconst 0, 1) := by decide +kernel
theorem dX1_lookAt_138 : decode cX1_lookAt 138 = .ok (.iastore, 1) := by decide +kernel
theorem dX1_lookAt_139 : decode cX1_lookAt 139 = .ok (.iload 8, 2) := by decide +kernel
theorem dX1_lookAt_141 : decode cX1_lookAt 141 = .ok (.istore 10, 2) := by decide +kernel
theorem dX1_lookAt_143 : decode cX1_lookAt 143 = .ok (.iload 10, 2) := by decide +kernel
theorem dX1_lookAt_145 : decode cX1_lookAt 145 = .ok (.iload 9, 2) := by decide +kernel
theorem dX1_lookAt_147 : decode cX1_lookAt 147 = .ok (.if_icmp .gt 68, 3) := by decide +kernel
theorem dX1_lookAt_150 : decode cX1_lookAt 150 = .ok (.iload 6, 2) := by decide +kernel
theorem dX1_lookAt_152 : decode cX1_lookAt 152 = .ok (.istore 11, 2) := by decide +kernel
theorem dX1_lookAt_154 : decode cX1_lookAt 154 = .ok (.iload 11, 2) := by decide +kernel
theorem dX1_lookAt_156 : decode cX1_lookAt 156 = .ok (.iload 7, 2) := by decide +kernel
theorem dX1_lookAt_158 : decode cX1_lookAt 158 = .ok (.if_icmp .gt 51, 3) := by decide +kernel
theorem dX1_lookAt_161 : decode cX1_lookAt 161 = .ok (.aload_n 1, 1) := by decide +kernel
theorem dX1_lookAt_162 : decode cX1_lookAt 162 = .ok (.iconst 0, 1) := by decide +kernel
theorem dX1_lookAt_163 : decode cX1_lookAt 163 = .ok (.iload 10, 2) := by decide +kernel
theorem dX1_lookAt_165 : decode cX1_lookAt 165 = .ok (.aload_n 1, 1) := by decide +kernel
theorem dX1_lookAt_166 : decode cX1_lookAt 166 = .ok (.getfield 85, 3) := by decide +kernel
theorem dX1_lookAt_169 : decode cX1_lookAt 169 = .ok (.imul, 1) := by decide +kernel
theorem dX1_lookAt_170 : decode cX1_lookAt 170 = .ok (.iload 11, 2) := by decide +kernel
theorem dX1_lookAt_172 : decode cX1_lookAt 172 = .ok (.iadd, 1) := by decide +kernel
theorem dX1_lookAt_173 : decode cX1_lookAt 173 = .ok (.invokevirtual 68, 3) := by decide +kernel
theorem dX1_lookAt_176 : decode cX1_lookAt 176 = .ok (.istore 12, 2) := by decide +kernel
theorem dX1_lookAt_178 : decode cX1_lookAt 178 = .ok (.aload_n 0, 1) := by decide +kernel
theorem dX1_lookAt_179 : decode cX1_lookAt 179 = .ok (.getfield 15, 3) := by decide +kernel
theorem dX1_lookAt_182 : decode cX1_lookAt 182 = .ok (.iload_n 2, 1) := by decide +kernel
theorem dX1_lookAt_183 : decode cX1_lookAt 183 = .ok (.dup2, 1) := by decide +kernel
theorem dX1_lookAt_184 : decode cX1_lookAt 184 = .ok (.iaload, 1) := by decide +kernel
theorem dX1_lookAt_185 : decode cX1_lookAt 185 = .ok (.iload 12, 2) := by decide +kernel
theorem dX1_lookAt_187 : decode cX1_lookAt 187 = .ok (.iadd, 1) := by decide +kernel
theorem dX1_lookAt_188 : decode cX1_lookAt 188 = .ok (.iastore, 1) := by decide +kernel
theorem dX1_lookAt_189 : decode cX1_lookAt 189 = .ok (.aload_n 0, 1) := by decide +kernel
theorem dX1_lookAt_190 : decode cX1_lookAt 190 = .ok (.getfield 18, 3) := by decide +kernel
theorem dX1_lookAt_193 : decode cX1_lookAt 193 = .ok (.iload_n 2, 1) := by decide +kernel
theorem dX1_lookAt_194 : decode cX1_lookAt 194 = .ok (.dup2, 1) := by decide +kernel
theorem dX1_lookAt_195 : decode cX1_lookAt 195 = .ok (.iaload, 1) := by decide +kernel
theorem dX1_lookAt_196 : decode cX1_lookAt 196 = .ok (.iload 12, 2) := by decide +kernel
theorem dX1_lookAt_198 : decode cX1_lookAt 198 = .ok (.iload 12, 2) := by decide +kernel
theorem dX1_lookAt_200 : decode cX1_lookAt 200 = .ok (.imul, 1) := by decide +kernel
theorem dX1_lookAt_201 : decode cX1_lookAt 201 = .ok (.iadd, 1) := by decide +kernel
theorem dX1_lookAt_202 : decode cX1_lookAt 202 = .ok (.iastore, 1) := by decide +kernel
theorem dX1_lookAt_203 : decode cX1_lookAt 203 = .ok (.iinc 11 1, 3) := by decide +kernel
theorem dX1_lookAt_206 : decode cX1_lookAt 206 = .ok (.goto (-52), 3) := by decide +kernel
theorem dX1_lookAt_209 : decode cX1_lookAt 209 = .ok (.iinc 10 1, 3) := by decide +kernel
theorem dX1_lookAt_212 : decode cX1_lookAt 212 = .ok (.goto (-69), 3) := by decide +kernel
theorem dX1_lookAt_215 : decode cX1_lookAt 215 = .ok (.return_, 1) := by decide +kernel
theorem dX1_countOf_0 : decode cX1_countOf 0 = .ok (.iload_n 1, 1) := by decide +kernel
theorem dX1_countOf_1 : decode cX1_countOf 1 = .ok (.invokestatic 94, 3) := by decide +kernel
theorem dX1_countOf_4 : decode cX1_countOf 4 = .ok (.ifCond .eq 12, 3) := by decide +kernel
theorem dX1_countOf_7 : decode cX1_countOf 7 = .ok (.aload_n 0, 1) := by decide +kernel
theorem dX1_countOf_8 : decode cX1_countOf 8 = .ok (.getfield 9, 3) := by decide +kernel
theorem dX1_countOf_11 : decode cX1_countOf 11 = .ok (.iload_n 1, 1) := by decide +kernel
theorem dX1_countOf_12 : decode cX1_countOf 12 = .ok (.iaload, 1) := by decide +kernel
theorem dX1_countOf_13 : decode cX1_countOf 13 = .ok (.goto 4, 3) := by decide +kernel
theorem dX1_countOf_16 : decode cX1_countOf 16 = .ok (.iconst 0, 1) := by decide +kernel
theorem dX1_countOf_17 : decode cX1_countOf 17 = .ok (.ireturn, 1) := by decide +kernel
theorem dX1_sumOf_0 : decode cX1_sumOf 0 = .ok (.iload_n 1, 1) := by decide +kernel
theorem dX1_sumOf_1 : decode cX1_sumOf 1 = .ok (.invokestatic 94, 3) := by decide +kernel
theorem dX1_sumOf_4 : decode cX1_sumOf 4 = .ok (.ifCond .eq 12, 3) := by decide +kernel
theorem dX1_sumOf_7 : decode cX1_sumOf 7 = .ok (.aload_n 0, 1) := by decide +kernel
theorem dX1_sumOf_8 : decode cX1_sumOf 8 = .ok (.getfield 15, 3) := by decide +kernel
theorem dX1_sumOf_11 : decode cX1_sumOf 11 = .ok (.iload_n 1, 1) := by decide +kernel
theorem dX1_sumOf_12 : decode cX1_sumOf 12 = .ok (.iaload, 1) := by decide +kernel
theorem dX1_sumOf_13 : decode cX1_sumOf 13 = .ok (.goto 4, 3) := by decide +kernel
theorem dX1_sumOf_16 : decode cX1_sumOf 16 = .ok (.iconst 0, 1) := by decide +kernel
theorem dX1_sumOf_17 : decode cX1_sumOf 17 = .ok (.ireturn, 1) := by decide +kernel
theorem dX1_squaresOf_0 : decode cX1_squaresOf 0 = .ok (.iload_n 1, 1) := by decide +kernel
theorem dX1_squaresOf_1 : decode cX1_squaresOf 1 = .ok (.invokestatic 94, 3) := by decide +kernel
theorem dX1_squaresOf_4 : decode cX1_squaresOf 4 = .ok (.ifCond .eq 12, 3) := by decide +kernel
theorem dX1_squaresOf_7 : decode cX1_squaresOf 7 = .ok (.aload_n 0, 1) := by decide +kernel
theorem dX1_squaresOf_8 : decode cX1_squaresOf 8 = .ok (.getfield 18, 3) := by decide +kernel
theorem dX1_squaresOf_11 : decode cX1_squaresOf 11 = .ok (.iload_n 1, 1) := by decide +kernel
theorem dX1_squaresOf_12 : decode cX1_squaresOf 12 = .ok (.iaload, 1) := by decide +kernel
theorem dX1_squaresOf_13 : decode cX1_squaresOf 13 = .ok (.goto 4, 3) := by decide +kernel
theorem dX1_squaresOf_16 : decode cX1_squaresOf 16 = .ok (.iconst 0, 1) := by decide +kernel
theorem dX1_squaresOf_17 : decode cX1_squaresOf 17 = .ok (.ireturn, 1) := by decide +kernel
theorem dX1_unevenness_0 : decode cX1_unevenness 0 = .ok (.iload_n 1, 1) := by decide +kernel
theorem dX1_unevenness_1 : decode cX1_unevenness 1 = .ok (.invokestatic 94, 3) := by decide +kernel
theorem dX1_unevenness_4 : decode cX1_unevenness 4 = .ok (.ifCond .eq 33, 3) := by decide +kernel
theorem dX1_unevenness_7 : decode cX1_unevenness 7 = .ok (.aload_n 0, 1) := by decide +kernel
theorem dX1_unevenness_8 : decode cX1_unevenness 8 = .ok (.getfield 9, 3) := by decide +kernel
theorem dX1_unevenness_11 : decode cX1_unevenness 11 = .ok (.iload_n 1, 1) := by decide +kernel
theorem dX1_unevenness_12 : decode cX1_unevenness 12 = .ok (.iaload, 1) := by decide +kernel
theorem dX1_unevenness_13 : decode cX1_unevenness 13 = .ok (.aload_n 0, 1) := by decide +kernel
theorem dX1_unevenness_14 : decode cX1_unevenness 14 = .ok (.getfield 18, 3) := by decide +kernel
theorem dX1_unevenness_17 : decode cX1_unevenness 17 = .ok (.iload_n 1, 1) := by decide +kernel
theorem dX1_unevenness_18 : decode cX1_unevenness 18 = .ok (.iaload, 1) := by decide +kernel
theorem dX1_unevenness_19 : decode cX1_unevenness 19 = .ok (.imul, 1) := by decide +kernel
theorem dX1_unevenness_20 : decode cX1_unevenness 20 = .ok (.aload_n 0, 1) := by decide +kernel
theorem dX1_unevenness_21 : decode cX1_unevenness 21 = .ok (.getfield 15, 3) := by decide +kernel
theorem dX1_unevenness_24 : decode cX1_unevenness 24 = .ok (.iload_n 1, 1) := by decide +kernel
theorem dX1_unevenness_25 : decode cX1_unevenness 25 = .ok (.iaload, 1) := by decide +kernel
theorem dX1_unevenness_26 : decode cX1_unevenness 26 = .ok (.aload_n 0, 1) := by decide +kernel
theorem dX1_unevenness_27 : decode cX1_unevenness 27 = .ok (.getfield 15, 3) := by decide +kernel
theorem dX1_unevenness_30 : decode cX1_unevenness 30 = .ok (.iload_n 1, 1) := by decide +kernel
theorem dX1_unevenness_31 : decode cX1_unevenness 31 = .ok (.iaload, 1) := by decide +kernel
theorem dX1_unevenness_32 : decode cX1_unevenness 32 = .ok (.imul, 1) := by decide +kernel
theorem dX1_unevenness_33 : decode cX1_unevenness 33 = .ok (.isub, 1) := by decide +kernel
theorem dX1_unevenness_34 : decode cX1_unevenness 34 = .ok (.goto 4, 3) := by decide +kernel
theorem dX1_unevenness_37 : decode cX1_unevenness 37 = .ok (.iconst 0, 1) := by decide +kernel
theorem dX1_unevenness_38 : decode cX1_unevenness 38 = .ok (.ireturn, 1) := by decide +kernel
theorem dX1_dotsMarked_0 : decode cX1_dotsMarked 0 = .ok (.iconst 0, 1) := by decide +kernel
theorem dX1_dotsMarked_1 : decode cX1_dotsMarked 1 = .ok (.istore_n 3, 1) := by decide +kernel
theorem dX1_dotsMarked_2 : decode cX1_dotsMarked 2 = .ok (.iconst 0, 1) := by decide +kernel
theorem dX1_dotsMarked_3 : decode cX1_dotsMarked 3 = .ok (.istore 4, 2) := by decide +kernel
theorem dX1_dotsMarked_5 : decode cX1_dotsMarked 5 = .ok (.iload 4, 2) := by decide +kernel
theorem dX1_dotsMarked_7 : decode cX1_dotsMarked 7 = .ok (.aload_n 0, 1) := by decide +kernel
theorem dX1_dotsMarked_8 : decode cX1_dotsMarked 8 = .ok (.getfield 31, 3) := by decide +kernel
theorem dX1_dotsMarked_11 : decode cX1_dotsMarked 11 = .ok (.if_icmp .ge 27, 3) := by decide +kernel
theorem dX1_dotsMarked_14 : decode cX1_dotsMarked 14 = .ok (.aload_n 0, 1) := by decide +kernel
theorem dX1_dotsMarked_15 : decode cX1_dotsMarked 15 = .ok (.iload 4, 2) := by decide +kernel
theorem dX1_dotsMarked_17 : decode cX1_dotsMarked 17 = .ok (.iload_n 1, 1) := by decide +kernel
theorem dX1_dotsMarked_18 : decode cX1_dotsMarked 18 = .ok (.invokevirtual 97, 3) := by decide +kernel
theorem dX1_dotsMarked_21 : decode cX1_dotsMarked 21 = .ok (.iload_n 2, 1) := by decide +kernel
theorem dX1_dotsMarked_22 : decode cX1_dotsMarked 22 = .ok (.if_icmp .ne 10, 3) := by decide +kernel
theorem dX1_dotsMarked_25 : decode cX1_dotsMarked 25 = .ok (.iload_n 3, 1) := by decide +kernel
theorem dX1_dotsMarked_26 : decode cX1_dotsMarked 26 = .ok (.iconst 1, 1) := by decide +kernel
theorem dX1_dotsMarked_27 : decode cX1_dotsMarked 27 = .ok (.iload 4, 2) := by decide +kernel
theorem dX1_dotsMarked_29 : decode cX1_dotsMarked 29 = .ok (.ishl, 1) := by decide +kernel
theorem dX1_dotsMarked_30 : decode cX1_dotsMarked 30 = .ok (.ior, 1) := by decide +kernel
theorem dX1_dotsMarked_31 : decode cX1_dotsMarked 31 = .ok (.istore_n 3, 1) := by decide +kernel
theorem dX1_dotsMarked_32 : decode cX1_dotsMarked 32 = .ok (.iinc 4 1, 3) := by decide +kernel
theorem dX1_dotsMarked_35 : decode cX1_dotsMarked 35 = .ok (.goto (-30), 3) := by decide +kernel
theorem dX1_dotsMarked_38 : decode cX1_dotsMarked 38 = .ok (.iload_n 3, 1) := by decide +kernel
theorem dX1_dotsMarked_39 : decode cX1_dotsMarked 39 = .ok (.ireturn, 1) := by decide +kernel
theorem dX1_markOf_0 : decode cX1_markOf 0 = .ok (.iload_n 1, 1) := by decide +kernel
theorem dX1_markOf_1 : decode cX1_markOf 1 = .ok (.invokestatic 94, 3) := by decide +kernel
theorem dX1_markOf_4 : decode cX1_markOf 4 = .ok (.ifCond .eq 18, 3) := by decide +kernel
theorem dX1_markOf_7 : decode cX1_markOf 7 = .ok (.aload_n 0, 1) := by decide +kernel
theorem dX1_markOf_8 : decode cX1_markOf 8 = .ok (.iload_n 1, 1) := by decide +kernel
theorem dX1_markOf_9 : decode cX1_markOf 9 = .ok (.aload_n 0, 1) := by decide +kernel
theorem dX1_markOf_10 : decode cX1_markOf 10 = .ok (.getfield 21, 3) := by decide +kernel
theorem dX1_markOf_13 : decode cX1_markOf 13 = .ok (.iload_n 1, 1) := by decide +kernel
theorem dX1_markOf_14 : decode cX1_markOf 14 = .ok (.iaload, 1) := by decide +kernel
theorem dX1_markOf_15 : decode cX1_markOf 15 = .ok (.iload_n 2, 1) := by decide +kernel
theorem dX1_markOf_16 : decode cX1_markOf 16 = .ok (.invokevirtual 100, 3) := by decide +kernel
theorem dX1_markOf_19 : decode cX1_markOf 19 = .ok (.ifCond .ne 5, 3) := by decide +kernel
theorem dX1_markOf_22 : decode cX1_markOf 22 = .ok (.iconst 0, 1) := by decide +kernel
theorem dX1_markOf_23 : decode cX1_markOf 23 = .ok (.ireturn, 1) := by decide +kernel
theorem dX1_markOf_24 : decode cX1_markOf 24 = .ok (.aload_n 0, 1) := by decide +kernel
theorem dX1_markOf_25 : decode cX1_markOf 25 = .ok (.iload_n 1, 1) := by decide +kernel
theorem dX1_markOf_26 : decode cX1_markOf 26 = .ok (.aload_n 0, 1) := by decide +kernel
theorem dX1_markOf_27 : decode cX1_markOf 27 = .ok (.getfield 24, 3) := by decide +kernel
theorem dX1_markOf_30 : decode cX1_markOf 30 = .ok (.iload_n 1, 1) := by decide +kernel
theorem dX1_markOf_31 : decode cX1_markOf 31 = .ok (.iaload, 1) := by decide +kernel
theorem dX1_markOf_32 : decode cX1_markOf 32 = .ok (.iload_n 2, 1) := by decide +kernel
theorem dX1_markOf_33 : decode cX1_markOf 33 = .ok (.invokevirtual 100, 3) := by decide +kernel
theorem dX1_markOf_36 : decode cX1_markOf 36 = .ok (.ifCond .eq 7, 3) := by decide +kernel
theorem dX1_markOf_39 : decode cX1_markOf 39 = .ok (.iconst 2, 1) := by decide +kernel
theorem dX1_markOf_40 : decode cX1_markOf 40 = .ok (.goto 4, 3) := by decide +kernel
theorem dX1_markOf_43 : decode cX1_markOf 43 = .ok (.iconst 1, 1) := by decide +kernel
theorem dX1_markOf_44 : decode cX1_markOf 44 = .ok (.ireturn, 1) := by decide +kernel
theorem dX1_isDark_0 : decode cX1_isDark 0 = .ok (.iload_n 1, 1) := by decide +kernel
theorem dX1_isDark_1 : decode cX1_isDark 1 = .ok (.invokestatic 94, 3) := by decide +kernel
theorem dX1_isDark_4 : decode cX1_isDark 4 = .ok (.ifCond .ne 5, 3) := by decide +kernel
theorem dX1_isDark_7 : decode cX1_isDark 7 = .ok (.iconst 0, 1) := by decide +kernel
theorem dX1_isDark_8 : decode cX1_isDark 8 = .ok (.ireturn, 1) := by decide +kernel
theorem dX1_isDark_9 : decode cX1_isDark 9 = .ok (.aload_n 0, 1) := by decide +kernel
theorem dX1_isDark_10 : decode cX1_isDark 10 = .ok (.getfield 9, 3) := by decide +kernel
theorem dX1_isDark_13 : decode cX1_isDark 13 = .ok (.iload_n 1, 1) := by decide +kernel
theorem dX1_isDark_14 : decode cX1_isDark 14 = .ok (.iaload, 1) := by decide +kernel
theorem dX1_isDark_15 : decode cX1_isDark 15 = .ok (.istore 4, 2) := by decide +kernel
theorem dX1_isDark_17 : decode cX1_isDark 17 = .ok (.aload_n 0, 1) := by decide +kernel
theorem dX1_isDark_18 : decode cX1_isDark 18 = .ok (.getfield 15, 3) := by decide +kernel
theorem dX1_isDark_21 : decode cX1_isDark 21 = .ok (.iload_n 1, 1) := by decide +kernel
theorem dX1_isDark_22 : decode cX1_isDark 22 = .ok (.iaload, 1) := by decide +kernel
theorem dX1_isDark_23 : decode cX1_isDark 23 = .ok (.iload 4, 2) := by decide +kernel
theorem dX1_isDark_25 : decode cX1_isDark 25 = .ok (.iload_n 2, 1) := by decide +kernel
theorem dX1_isDark_26 : decode cX1_isDark 26 = .ok (.imul, 1) := by decide +kernel
theorem dX1_isDark_27 : decode cX1_isDark 27 = .ok (.isub, 1) := by decide +kernel
theorem dX1_isDark_28 : decode cX1_isDark 28 = .ok (.istore 5, 2) := by decide +kernel
theorem dX1_isDark_30 : decode cX1_isDark 30 = .ok (.iload 4, 2) := by decide +kernel
theorem dX1_isDark_32 : decode cX1_isDark 32 = .ok (.aload_n 0, 1) := by decide +kernel
theorem dX1_isDark_33 : decode cX1_isDark 33 = .ok (.getfield 18, 3) := by decide +kernel
theorem dX1_isDark_36 : decode cX1_isDark 36 = .ok (.iload_n 1, 1) := by decide +kernel
theorem dX1_isDark_37 : decode cX1_isDark 37 = .ok (.iaload, 1) := by decide +kernel
theorem dX1_isDark_38 : decode cX1_isDark 38 = .ok (.imul, 1) := by decide +kernel
theorem dX1_isDark_39 : decode cX1_isDark 39 = .ok (.aload_n 0, 1) := by decide +kernel
theorem dX1_isDark_40 : decode cX1_isDark 40 = .ok (.getfield 15, 3) := by decide +kernel
theorem dX1_isDark_43 : decode cX1_isDark 43 = .ok (.iload_n 1, 1) := by decide +kernel
theorem dX1_isDark_44 : decode cX1_isDark 44 = .ok (.iaload, 1) := by decide +kernel
theorem dX1_isDark_45 : decode cX1_isDark 45 = .ok (.aload_n 0, 1) := by decide +kernel
theorem dX1_isDark_46 : decode cX1_isDark 46 = .ok (.getfield 15, 3) := by decide +kernel
theorem dX1_isDark_49 : decode cX1_isDark 49 = .ok (.iload_n 1, 1) := by decide +kernel
theorem dX1_isDark_50 : decode cX1_isDark 50 = .ok (.iaload, 1) := by decide +kernel
theorem dX1_isDark_51 : decode cX1_isDark 51 = .ok (.imul, 1) := by decide +kernel
theorem dX1_isDark_52 : decode cX1_isDark 52 = .ok (.isub, 1) := by decide +kernel
theorem dX1_isDark_53 : decode cX1_isDark 53 = .ok (.istore 6, 2) := by decide +kernel
theorem dX1_isDark_55 : decode cX1_isDark 55 = .ok (.aload_n 0, 1) := by decide +kernel
theorem dX1_isDark_56 : decode cX1_isDark 56 = .ok (.getfield 27, 3) := by decide +kernel
theorem dX1_isDark_59 : decode cX1_isDark 59 = .ok (.lookupswitch 68 #[(0, 25), (1, 40)], 25) := by decide +kernel
theorem dX1_isDark_84 : decode cX1_isDark 84 = .ok (.iload 5, 2) := by decide +kernel
theorem dX1_isDark_86 : decode cX1_isDark 86 = .ok (.iload 4, 2) := by decide +kernel
theorem dX1_isDark_88 : decode cX1_isDark 88 = .ok (.iload_n 3, 1) := by decide +kernel
theorem dX1_isDark_89 : decode cX1_isDark 89 = .ok (.imul, 1) := by decide +kernel
theorem dX1_isDark_90 : decode cX1_isDark 90 = .ok (.if_icmp .le 7, 3) := by decide +kernel
theorem dX1_isDark_93 : decode cX1_isDark 93 = .ok (.iconst 1, 1) := by decide +kernel
theorem dX1_isDark_94 : decode cX1_isDark 94 = .ok (.goto 4, 3) := by decide +kernel
theorem dX1_isDark_97 : decode cX1_isDark 97 = .ok (.iconst 0, 1) := by decide +kernel
theorem dX1_isDark_98 : decode cX1_isDark 98 = .ok (.ireturn, 1) := by decide +kernel
theorem dX1_isDark_99 : decode cX1_isDark 99 = .ok (.iload 5, 2) := by decide +kernel
theorem dX1_isDark_101 : decode cX1_isDark 101 = .ok (.ifCond .le 24, 3) := by decide +kernel
theorem dX1_isDark_104 : decode cX1_isDark 104 = .ok (.bipush 100, 2) := by decide +kernel
theorem dX1_isDark_106 : decode cX1_isDark 106 = .ok (.iload 5, 2) := by decide +kernel
theorem dX1_isDark_108 : decode cX1_isDark 108 = .ok (.imul, 1) := by decide +kernel
theorem dX1_isDark_109 : decode cX1_isDark 109 = .ok (.iload 5, 2) := by decide +kernel
theorem dX1_isDark_111 : decode cX1_isDark 111 = .ok (.imul, 1) := by decide +kernel
theorem dX1_isDark_112 : decode cX1_isDark 112 = .ok (.iload_n 3, 1) := by decide +kernel
theorem dX1_isDark_113 : decode cX1_isDark 113 = .ok (.iload_n 3, 1) := by decide +kernel
theorem dX1_isDark_114 : decode cX1_isDark 114 = .ok (.imul, 1) := by decide +kernel
theorem dX1_isDark_115 : decode cX1_isDark 115 = .ok (.iload 6, 2) := by decide +kernel
theorem dX1_isDark_117 : decode cX1_isDark 117 = .ok (.imul, 1) := by decide +kernel
theorem dX1_isDark_118 : decode cX1_isDark 118 = .ok (.if_icmp .le 7, 3) := by decide +kernel
theorem dX1_isDark_121 : decode cX1_isDark 121 = .ok (.iconst 1, 1) := by decide +kernel
theorem dX1_isDark_122 : decode cX1_isDark 122 = .ok (.goto 4, 3) := by decide +kernel
theorem dX1_isDark_125 : decode cX1_isDark 125 = .ok (.iconst 0, 1) := by decide +kernel
theorem dX1_isDark_126 : decode cX1_isDark 126 = .ok (.ireturn, 1) := by decide +kernel
theorem dX1_isDark_127 : decode cX1_isDark 127 = .ok (.iload_n 2, 1) := by decide +kernel
theorem dX1_isDark_128 : decode cX1_isDark 128 = .ok (.iload_n 3, 1) := by decide +kernel
theorem dX1_isDark_129 : decode cX1_isDark 129 = .ok (.if_icmp .ge 7, 3) := by decide +kernel
theorem dX1_isDark_132 : decode cX1_isDark 132 = .ok (.iconst 1, 1) := by decide +kernel
theorem dX1_isDark_133 : decode cX1_isDark 133 = .ok (.goto 4, 3) := by decide +kernel
theorem dX1_isDark_136 : decode cX1_isDark 136 = .ok (.iconst 0, 1) := by decide +kernel
theorem dX1_isDark_137 : decode cX1_isDark 137 = .ok (.ireturn, 1) := by decide +kernel
theorem dX1_isPlace_0 : decode cX1_isPlace 0 = .ok (.iload_n 0, 1) := by decide +kernel
theorem dX1_isPlace_1 : decode cX1_isPlace 1 = .ok (.ifCond .lt 13, 3) := by decide +kernel
theorem dX1_isPlace_4 : decode cX1_isPlace 4 = .ok (.iload_n 0, 1) := by decide +kernel
theorem dX1_isPlace_5 : decode cX1_isPlace 5 = .ok (.bipush 25, 2) := by decide +kernel
theorem dX1_isPlace_7 : decode cX1_isPlace 7 = .ok (.if_icmp .ge 7, 3) := by decide +kernel
theorem dX1_isPlace_10 : decode cX1_isPlace 10 = .ok (.iconst 1, 1) := by decide +kernel
theorem dX1_isPlace_11 : decode cX1_isPlace 11 = .ok (.goto 4, 3) := by decide +kernel
theorem dX1_isPlace_14 : decode cX1_isPlace 14 = .ok (.iconst 0, 1) := by decide +kernel
theorem dX1_isPlace_15 : decode cX1_isPlace 15 = .ok (.ireturn, 1) := by decide +kernel
theorem dX2_init_0 : decode cX2_init 0 = .ok (.aload_n 0, 1) := by decide +kernel
theorem dX2_init_1 : decode cX2_init 1 = .ok (.invokespecial 3, 3) := by decide +kernel
theorem dX2_init_4 : decode cX2_init 4 = .ok (.aload_n 0, 1) := by decide +kernel
theorem dX2_init_5 : decode cX2_init 5 = .ok (.bipush 6, 2) := by decide +kernel
theorem dX2_init_7 : decode cX2_init 7 = .ok (.newarray .int, 2) := by decide +kernel
theorem dX2_init_9 : decode cX2_init 9 = .ok (.putfield 9, 3) := by decide +kernel
theorem dX2_init_12 : decode cX2_init 12 = .ok (.aload_n 0, 1) := by decide +kernel
theorem dX2_init_13 : decode cX2_init 13 = .ok (.bipush 6, 2) := by decide +kernel
theorem dX2_init_15 : decode cX2_init 15 = .ok (.newarray .int, 2) := by decide +kernel
theorem dX2_init_17 : decode cX2_init 17 = .ok (.putfield 15, 3) := by decide +kernel
theorem dX2_init_20 : decode cX2_init 20 = .ok (.aload_n 0, 1) := by decide +kernel
theorem dX2_init_21 : decode cX2_init 21 = .ok (.iconst 0, 1) := by decide +kernel
theorem dX2_init_22 : decode cX2_init 22 = .ok (.putfield 18, 3) := by decide +kernel
theorem dX2_init_25 : decode cX2_init 25 = .ok (.return_, 1) := by decide +kernel
theorem dX2_size_0 : decode cX2_size 0 = .ok (.aload_n 0, 1) := by decide +kernel
theorem dX2_size_1 : decode cX2_size 1 = .ok (.getfield 18, 3) := by decide +kernel
theorem dX2_size_4 : decode cX2_size 4 = .ok (.ireturn, 1) := by decide +kernel
theorem dX2_isFull_0 : decode cX2_isFull 0 = .ok (.aload_n 0, 1) := by decide +kernel
theorem dX2_isFull_1 : decode cX2_isFull 1 = .ok (.getfield 18, 3) := by decide +kernel
theorem dX2_isFull_4 : decode cX2_isFull 4 = .ok (.bipush 6, 2) := by decide +kernel
theorem dX2_isFull_6 : decode cX2_isFull 6 = .ok (.if_icmp .lt 7, 3) := by decide +kernel
theorem dX2_isFull_9 : decode cX2_isFull 9 = .ok (.iconst 1, 1) := by decide +kernel
theorem dX2_isFull_10 : decode cX2_isFull 10 = .ok (.goto 4, 3) := by decide +kernel
theorem dX2_isFull_13 : decode cX2_isFull 13 = .ok (.iconst 0, 1) := by decide +kernel
theorem dX2_isFull_14 : decode cX2_isFull 14 = .ok (.ireturn, 1) := by decide +kernel
theorem dX2_add_0 : decode cX2_add 0 = .ok (.aload_n 0, 1) := by decide +kernel
theorem dX2_add_1 : decode cX2_add 1 = .ok (.invokevirtual 22, 3) := by decide +kernel
theorem dX2_add_4 : decode cX2_add 4 = .ok (.ifCond .ne 33, 3) := by decide +kernel
theorem dX2_add_7 : decode cX2_add 7 = .ok (.aload_n 0, 1) := by decide +kernel
theorem dX2_add_8 : decode cX2_add 8 = .ok (.getfield 9, 3) := by decide +kernel
theorem dX2_add_11 : decode cX2_add 11 = .ok (.aload_n 0, 1) := by decide +kernel
theorem dX2_add_12 : decode cX2_add 12 = .ok (.getfield 18, 3) := by decide +kernel
theorem dX2_add_15 : decode cX2_add 15 = .ok (.iload_n 1, 1) := by decide +kernel
theorem dX2_add_16 : decode cX2_add 16 = .ok (.iastore, 1) := by decide +kernel
theorem dX2_add_17 : decode cX2_add 17 = .ok (.aload_n 0, 1) := by decide +kernel
theorem dX2_add_18 : decode cX2_add 18 = .ok (.getfield 15, 3) := by decide +kernel
theorem dX2_add_21 : decode cX2_add 21 = .ok (.aload_n 0, 1) := by decide +kernel
theorem dX2_add_22 : decode cX2_add 22 = .ok (.getfield 18, 3) := by decide +kernel
theorem dX2_add_25 : decode cX2_add 25 = .ok (.iload_n 2, 1) := by decide +kernel
theorem dX2_add_26 : decode cX2_add 26 = .ok (.iastore, 1) := by decide +kernel
theorem dX2_add_27 : decode cX2_add 27 = .ok (.aload_n 0, 1) := by decide +kernel
theorem dX2_add_28 : decode cX2_add 28 = .ok (.dup, 1) := by decide +kernel
theorem dX2_add_29 : decode cX2_add 29 = .ok (.getfield 18, 3) := by decide +kernel
theorem dX2_add_32 : decode cX2_add 32 = .ok (.iconst 1, 1) := by decide +kernel
theorem dX2_add_33 : decode cX2_add 33 = .ok (.iadd, 1) := by decide +kernel
theorem dX2_add_34 : decode cX2_add 34 = .ok (.putfield 18, 3) := by decide +kernel
theorem dX2_add_37 : decode cX2_add 37 = .ok (.aload_n 0, 1) := by decide +kernel
theorem dX2_add_38 : decode cX2_add 38 = .ok (.getfield 18, 3) := by decide +kernel
theorem dX2_add_41 : decode cX2_add 41 = .ok (.ireturn, 1) := by decide +kernel
theorem dX2_clear_0 : decode cX2_clear 0 = .ok (.aload_n 0, 1) := by decide +kernel
theorem dX2_clear_1 : decode cX2_clear 1 = .ok (.getfield 18, 3) := by decide +kernel
theorem dX2_clear_4 : decode cX2_clear 4 = .ok (.istore_n 1, 1) := by decide +kernel
theorem dX2_clear_5 : decode cX2_clear 5 = .ok (.aload_n 0, 1) := by decide +kernel
theorem dX2_clear_6 : decode cX2_clear 6 = .ok (.iconst 0, 1) := by decide +kernel
theorem dX2_clear_7 : decode cX2_clear 7 = .ok (.putfield 18, 3) := by decide +kernel
theorem dX2_clear_10 : decode cX2_clear 10 = .ok (.iload_n 1, 1) := by decide +kernel
theorem dX2_clear_11 : decode cX2_clear 11 = .ok (.ireturn, 1) := by decide +kernel
theorem dX2_agreesWith_0 : decode cX2_agreesWith 0 = .ok (.iconst 1, 1) := by decide +kernel
theorem dX2_agreesWith_1 : decode cX2_agreesWith 1 = .ok (.istore_n 2, 1) := by decide +kernel
theorem dX2_agreesWith_2 : decode cX2_agreesWith 2 = .ok (.iconst 0, 1) := by decide +kernel
theorem dX2_agreesWith_3 : decode cX2_agreesWith 3 = .ok (.istore_n 3, 1) := by decide +kernel
theorem dX2_agreesWith_4 : decode cX2_agreesWith 4 = .ok (.iload_n 3, 1) := by decide +kernel
theorem dX2_agreesWith_5 : decode cX2_agreesWith 5 = .ok (.aload_n 0, 1) := by decide +kernel
theorem dX2_agreesWith_6 : decode cX2_agreesWith 6 = .ok (.getfield 18, 3) := by decide +kernel
theorem dX2_agreesWith_9 : decode cX2_agreesWith 9 = .ok (.if_icmp .ge 38, 3) := by decide +kernel
theorem dX2_agreesWith_12 : decode cX2_agreesWith 12 = .ok (.iload_n 2, 1) := by decide +kernel
theorem dX2_agreesWith_13 : decode cX2_agreesWith 13 = .ok (.ifCond .eq 26, 3) := by decide +kernel
theorem dX2_agreesWith_16 : decode cX2_agreesWith 16 = .ok (.iload_n 1, 1) := by decide +kernel
theorem dX2_agreesWith_17 : decode cX2_agreesWith 17 = .ok (.aload_n 0, 1) := by decide +kernel
theorem dX2_agreesWith_18 : decode cX2_agreesWith 18 = .ok (.getfield 9, 3) := by decide +kernel
theorem dX2_agreesWith_21 : decode cX2_agreesWith 21 = .ok (.iload_n 3, 1) := by decide +kernel
theorem dX2_agreesWith_22 : decode cX2_agreesWith 22 = .ok (.iaload, 1) := by decide +kernel
theorem dX2_agreesWith_23 : decode cX2_agreesWith 23 = .ok (.ishr, 1) := by decide +kernel
theorem dX2_agreesWith_24 : decode cX2_agreesWith 24 = .ok (.iconst 1, 1) := by decide +kernel
theorem dX2_agreesWith_25 : decode cX2_agreesWith 25 = .ok (.iand, 1) := by decide +kernel
theorem dX2_agreesWith_26 : decode cX2_agreesWith 26 = .ok (.aload_n 0, 1) := by decide +kernel
theorem dX2_agreesWith_27 : decode cX2_agreesWith 27 = .ok (.getfield 15, 3) := by decide +kernel
theorem dX2_agreesWith_30 : decode cX2_agreesWith 30 = .ok (.iload_n 3, 1) := by decide +kernel
theorem dX2_agreesWith_31 : decode cX2_agreesWith 31 = .ok (.iaload, 1) := by decide +kernel
theorem dX2_agreesWith_32 : decode cX2_agreesWith 32 = .ok (.if_icmp .ne 7, 3) := by decide +kernel
theorem dX2_agreesWith_35 : decode cX2_agreesWith 35 = .ok (.iconst 1, 1) := by decide +kernel
theorem dX2_agreesWith_36 : decode cX2_agreesWith 36 = .ok (.goto 4, 3) := by decide +kernel
theorem dX2_agreesWith_39 : decode cX2_agreesWith 39 = .ok (.iconst 0, 1) := by decide +kernel
theorem dX2_agreesWith_40 : decode cX2_agreesWith 40 = .ok (.istore_n 2, 1) := by decide +kernel
theorem dX2_agreesWith_41 : decode cX2_agreesWith 41 = .ok (.iinc 3 1, 3) := by decide +kernel
theorem dX2_agreesWith_44 : decode cX2_agreesWith 44 = .ok (.goto (-40), 3) := by decide +kernel
theorem dX2_agreesWith_47 : decode cX2_agreesWith 47 = .ok (.iload_n 2, 1) := by decide +kernel
theorem dX2_agreesWith_48 : decode cX2_agreesWith 48 = .ok (.ireturn, 1) := by decide +kernel
theorem dX3_init_0 : decode cX3_init 0 = .ok (.aload_n 0, 1) := by decide +kernel
theorem dX3_init_1 : decode cX3_init 1 = .ok (.invokespecial 3, 3) := by decide +kernel
theorem dX3_init_4 : decode cX3_init 4 = .ok (.aload_n 0, 1) := by decide +kernel
theorem dX3_init_5 : decode cX3_init 5 = .ok (.bipush 25, 2) := by decide +kernel
theorem dX3_init_7 : decode cX3_init 7 = .ok (.newarray .int, 2) := by decide +kernel
theorem dX3_init_9 : decode cX3_init 9 = .ok (.putfield 9, 3) := by decide +kernel
theorem dX3_init_12 : decode cX3_init 12 = .ok (.aload_n 0, 1) := by decide +kernel
theorem dX3_init_13 : decode cX3_init 13 = .ok (.bipush 25, 2) := by decide +kernel
theorem dX3_init_15 : decode cX3_init 15 = .ok (.newarray .int, 2) := by decide +kernel
theorem dX3_init_17 : decode cX3_init 17 = .ok (.putfield 15, 3) := by decide +kernel
theorem dX3_init_20 : decode cX3_init 20 = .ok (.aload_n 0, 1) := by decide +kernel
theorem dX3_init_21 : decode cX3_init 21 = .ok (.bipush 10, 2) := by decide +kernel
theorem dX3_init_23 : decode cX3_init 23 = .ok (.newarray .int, 2) := by decide +kernel
theorem dX3_init_25 : decode cX3_init 25 = .ok (.putfield 18, 3) := by decide +kernel
theorem dX3_init_28 : decode cX3_init 28 = .ok (.aload_n 0, 1) := by decide +kernel
theorem dX3_init_29 : decode cX3_init 29 = .ok (.iconst 1, 1) := by decide +kernel
theorem dX3_init_30 : decode cX3_init 30 = .ok (.putfield 21, 3) := by decide +kernel
theorem dX3_init_33 : decode cX3_init 33 = .ok (.aload_n 0, 1) := by decide +kernel
theorem dX3_init_34 : decode cX3_init 34 = .ok (.iconst 1, 1) := by decide +kernel
theorem dX3_init_35 : decode cX3_init 35 = .ok (.putfield 25, 3) := by decide +kernel
theorem dX3_init_38 : decode cX3_init 38 = .ok (.aload_n 0, 1) := by decide +kernel
theorem dX3_init_39 : decode cX3_init 39 = .ok (.getfield 9, 3) := by decide +kernel
theorem dX3_init_42 : decode cX3_init 42 = .ok (.iconst 0, 1) := by decide +kernel
theorem dX3_init_43 : decode cX3_init 43 = .ok (.bipush 9, 2) := by decide +kernel
theorem dX3_init_45 : decode cX3_init 45 = .ok (.iastore, 1) := by decide +kernel
theorem dX3_init_46 : decode cX3_init 46 = .ok (.aload_n 0, 1) := by decide +kernel
theorem dX3_init_47 : decode cX3_init 47 = .ok (.getfield 15, 3) := by decide +kernel
theorem dX3_init_50 : decode cX3_init 50 = .ok (.iconst 0, 1) := by decide +kernel
theorem dX3_init_51 : decode cX3_init 51 = .ok (.bipush 9, 2) := by decide +kernel
theorem dX3_init_53 : decode cX3_init 53 = .ok (.iastore, 1) := by decide +kernel
theorem dX3_init_54 : decode cX3_init 54 = .ok (.aload_n 0, 1) := by decide +kernel
theorem dX3_init_55 : decode cX3_init 55 = .ok (.iconst 0, 1) := by decide +kernel
theorem dX3_init_56 : decode cX3_init 56 = .ok (.putfield 28, 3) := by decide +kernel
theorem dX3_init_59 : decode cX3_init 59 = .ok (.aload_n 0, 1) := by decide +kernel
theorem dX3_init_60 : decode cX3_init 60 = .ok (.iconst 1, 1) := by decide +kernel
theorem dX3_init_61 : decode cX3_init 61 = .ok (.putfield 31, 3) := by decide +kernel
theorem dX3_init_64 : decode cX3_init 64 = .ok (.aload_n 0, 1) := by decide +kernel
theorem dX3_init_65 : decode cX3_init 65 = .ok (.iconst 1, 1) := by decide +kernel
theorem dX3_init_66 : decode cX3_init 66 = .ok (.putfield 34, 3) := by decide +kernel
theorem dX3_init_69 : decode cX3_init 69 = .ok (.aload_n 0, 1) := by decide +kernel
theorem dX3_init_70 : decode cX3_init 70 = .ok (.iconst 0, 1) := by decide +kernel
theorem dX3_init_71 : decode cX3_init 71 = .ok (.putfield 37, 3) := by decide +kernel
theorem dX3_init_74 : decode cX3_init 74 = .ok (.aload_n 0, 1) := by decide +kernel
theorem dX3_init_75 : decode cX3_init 75 = .ok (.iconst 0, 1) := by decide +kernel
theorem dX3_init_76 : decode cX3_init 76 = .ok (.putfield 40, 3) := by decide +kernel
theorem dX3_init_79 : decode cX3_init 79 = .ok (.return_, 1) := by decide +kernel
theorem dX3_becomeText_0 : decode cX3_becomeText 0 = .ok (.aload_n 0, 1) := by decide +kernel
theorem dX3_becomeText_1 : decode cX3_becomeText 1 = .ok (.aload_n 1, 1) := by decide +kernel
theorem dX3_becomeText_2 : decode cX3_becomeText 2 = .ok (.iconst 1, 1) := by decide +kernel
theorem dX3_becomeText_3 : decode cX3_becomeText 3 = .ok (.invokevirtual 43, 3) := by decide +kernel
theorem dX3_becomeText_6 : decode cX3_becomeText 6 = .ok (.putfield 21, 3) := by decide +kernel
theorem dX3_becomeText_9 : decode cX3_becomeText 9 = .ok (.aload_n 0, 1) := by decide +kernel
theorem dX3_becomeText_10 : decode cX3_becomeText 10 = .ok (.aload_n 1, 1) := by decide +kernel
theorem dX3_becomeText_11 : decode cX3_becomeText 11 = .ok (.iconst 2, 1) := by decide +kernel
theorem dX3_becomeText_12 : decode cX3_becomeText 12 = .ok (.invokevirtual 43, 3) := by decide +kernel
theorem dX3_becomeText_15 : decode cX3_becomeText 15 = .ok (.putfield 25, 3) := by decide +kernel
theorem dX3_becomeText_18 : decode cX3_becomeText 18 = .ok (.iconst 0, 1) := by decide +kernel
theorem dX3_becomeText_19 : decode cX3_becomeText 19 = .ok (.istore_n 2, 1) := by decide +kernel
theorem dX3_becomeText_20 : decode cX3_becomeText 20 = .ok (.iload_n 2, 1) := by decide +kernel
theorem dX3_becomeText_21 : decode cX3_becomeText 21 = .ok (.aload_n 0, 1) := by decide +kernel
theorem dX3_becomeText_22 : decode cX3_becomeText 22 = .ok (.invokevirtual 49, 3) := by decide +kernel
theorem dX3_becomeText_25 : decode cX3_becomeText 25 = .ok (.if_icmp .ge 40, 3) := by decide +kernel
theorem dX3_becomeText_28 : decode cX3_becomeText 28 = .ok (.aload_n 0, 1) := by decide +kernel
theorem dX3_becomeText_29 : decode cX3_becomeText 29 = .ok (.iconst 0, 1) := by decide +kernel
theorem dX3_becomeText_30 : decode cX3_becomeText 30 = .ok (.iload_n 2, 1) := by decide +kernel
theorem dX3_becomeText_31 : decode cX3_becomeText 31 = .ok (.aload_n 1, 1) := by decide +kernel
theorem dX3_becomeText_32 : decode cX3_becomeText 32 = .ok (.iconst 3, 1) := by decide +kernel
theorem dX3_becomeText_33 : decode cX3_becomeText 33 = .ok (.iload_n 2, 1) := by decide +kernel
theorem dX3_becomeText_34 : decode cX3_becomeText 34 = .ok (.iadd, 1) := by decide +kernel
theorem dX3_becomeText_35 : decode cX3_becomeText 35 = .ok (.invokevirtual 43, 3) := by decide +kernel
theorem dX3_becomeText_38 : decode cX3_becomeText 38 = .ok (.invokevirtual 53, 3) := by decide +kernel
theorem dX3_becomeText_41 : decode cX3_becomeText 41 = .ok (.aload_n 0, 1) := by decide +kernel
theorem dX3_becomeText_42 : decode cX3_becomeText 42 = .ok (.iconst 1, 1) := by decide +kernel
theorem dX3_becomeText_43 : decode cX3_becomeText 43 = .ok (.iload_n 2, 1) := by decide +kernel
theorem dX3_becomeText_44 : decode cX3_becomeText 44 = .ok (.aload_n 1, 1) := by decide +kernel
theorem dX3_becomeText_45 : decode cX3_becomeText 45 = .ok (.iconst 4, 1) := by decide +kernel
theorem dX3_becomeText_46 : decode cX3_becomeText 46 = .ok (.aload_n 0, 1) := by decide +kernel
theorem dX3_becomeText_47 : decode cX3_becomeText 47 = .ok (.invokevirtual 49, 3) := by decide +kernel
theorem dX3_becomeText_50 : decode cX3_becomeText 50 = .ok (.iadd, 1) := by decide +kernel
theorem dX3_becomeText_51 : decode cX3_becomeText 51 = .ok (.iload_n 2, 1) := by decide +kernel
theorem dX3_becomeText_52 : decode cX3_becomeText 52 = .ok (.iadd, 1) := by decide +kernel
theorem dX3_becomeText_53 : decode cX3_becomeText 53 = .ok (.invokevirtual 43, 3) := by decide +kernel
theorem dX3_becomeText_56 : decode cX3_becomeText 56 = .ok (.invokevirtual 53, 3) := by decide +kernel
theorem dX3_becomeText_59 : decode cX3_becomeText 59 = .ok (.iinc 2 1, 3) := by decide +kernel
theorem dX3_becomeText_62 : decode cX3_becomeText 62 = .ok (.goto (-42), 3) := by decide +kernel
theorem dX3_becomeText_65 : decode cX3_becomeText 65 = .ok (.iconst 0, 1) := by decide +kernel
theorem dX3_becomeText_66 : decode cX3_becomeText 66 = .ok (.istore_n 2, 1) := by decide +kernel
theorem dX3_becomeText_67 : decode cX3_becomeText 67 = .ok (.iload_n 2, 1) := by decide +kernel
theorem dX3_becomeText_68 : decode cX3_becomeText 68 = .ok (.bipush 10, 2) := by decide +kernel
theorem dX3_becomeText_70 : decode cX3_becomeText 70 = .ok (.if_icmp .ge 15, 3) := by decide +kernel
theorem dX3_becomeText_73 : decode cX3_becomeText 73 = .ok (.aload_n 0, 1) := by decide +kernel
theorem dX3_becomeText_74 : decode cX3_becomeText 74 = .ok (.iload_n 2, 1) := by decide +kernel
theorem dX3_becomeText_75 : decode cX3_becomeText 75 = .ok (.iconst 0, 1) := by decide +kernel
theorem dX3_becomeText_76 : decode cX3_becomeText 76 = .ok (.invokevirtual 57, 3) := by decide +kernel
theorem dX3_becomeText_79 : decode cX3_becomeText 79 = .ok (.iinc 2 1, 3) := by decide +kernel
theorem dX3_becomeText_82 : decode cX3_becomeText 82 = .ok (.goto (-15), 3) := by decide +kernel
theorem dX3_becomeText_85 : decode cX3_becomeText 85 = .ok (.aload_n 0, 1) := by decide +kernel
theorem dX3_becomeText_86 : decode cX3_becomeText 86 = .ok (.iconst 0, 1) := by decide +kernel
theorem dX3_becomeText_87 : decode cX3_becomeText 87 = .ok (.iconst 1, 1) := by decide +kernel
theorem dX3_becomeText_88 : decode cX3_becomeText 88 = .ok (.iconst 1, 1) := by decide +kernel
theorem dX3_becomeText_89 : decode cX3_becomeText 89 = .ok (.invokevirtual 61, 3) := by decide +kernel
theorem dX3_becomeText_92 : decode cX3_becomeText 92 = .ok (.aload_n 0, 1) := by decide +kernel
theorem dX3_becomeText_93 : decode cX3_becomeText 93 = .ok (.iconst 0, 1) := by decide +kernel
theorem dX3_becomeText_94 : decode cX3_becomeText 94 = .ok (.iconst 0, 1) := by decide +kernel
theorem dX3_becomeText_95 : decode cX3_becomeText 95 = .ok (.invokevirtual 64, 3) := by decide +kernel
theorem dX3_becomeText_98 : decode cX3_becomeText 98 = .ok (.return_, 1) := by decide +kernel
theorem dX3_copyFrom_0 : decode cX3_copyFrom 0 = .ok (.aload_n 0, 1) := by decide +kernel
theorem dX3_copyFrom_1 : decode cX3_copyFrom 1 = .ok (.aload_n 1, 1) := by decide +kernel
theorem dX3_copyFrom_2 : decode cX3_copyFrom 2 = .ok (.getfield 21, 3) := by decide +kernel
theorem dX3_copyFrom_5 : decode cX3_copyFrom 5 = .ok (.putfield 21, 3) := by decide +kernel
theorem dX3_copyFrom_8 : decode cX3_copyFrom 8 = .ok (.aload_n 0, 1) := by decide +kernel
theorem dX3_copyFrom_9 : decode cX3_copyFrom 9 = .ok (.aload_n 1, 1) := by decide +kernel
theorem dX3_copyFrom_10 : decode cX3_copyFrom 10 = .ok (.getfield 25, 3) := by decide +kernel
theorem dX3_copyFrom_13 : decode cX3_copyFrom 13 = .ok (.putfield 25, 3) := by decide +kernel
theorem dX3_copyFrom_16 : decode cX3_copyFrom 16 = .ok (.aload_n 1, 1) := by decide +kernel
theorem dX3_copyFrom_17 : decode cX3_copyFrom 17 = .ok (.getfield 9, 3) := by decide +kernel
theorem dX3_copyFrom_20 : decode cX3_copyFrom 20 = .ok (.iconst 0, 1) := by decide +kernel
theorem dX3_copyFrom_21 : decode cX3_copyFrom 21 = .ok (.aload_n 0, 1) := by decide +kernel
theorem dX3_copyFrom_22 : decode cX3_copyFrom 22 = .ok (.getfield 9, 3) := by decide +kernel
theorem dX3_copyFrom_25 : decode cX3_copyFrom 25 = .ok (.iconst 0, 1) := by decide +kernel
theorem dX3_copyFrom_26 : decode cX3_copyFrom 26 = .ok (.bipush 25, 2) := by decide +kernel
theorem dX3_copyFrom_28 : decode cX3_copyFrom 28 = .ok (.invokestatic 67, 3) := by decide +kernel
theorem dX3_copyFrom_31 : decode cX3_copyFrom 31 = .ok (.aload_n 1, 1) := by decide +kernel
theorem dX3_copyFrom_32 : decode cX3_copyFrom 32 = .ok (.getfield 15, 3) := by decide +kernel
theorem dX3_copyFrom_35 : decode cX3_copyFrom 35 = .ok (.iconst 0, 1) := by decide +kernel
theorem dX3_copyFrom_36 : decode cX3_copyFrom 36 = .ok (.aload_n 0, 1) := by decide +kernel
theorem dX3_copyFrom_37 : decode cX3_copyFrom 37 = .ok (.getfield 15, 3) := by decide +kernel
theorem dX3_copyFrom_40 : decode cX3_copyFrom 40 = .ok (.iconst 0, 1) := by decide +kernel
theorem dX3_copyFrom_41 : decode cX3_copyFrom 41 = .ok (.bipush 25, 2) := by decide +kernel
theorem dX3_copyFrom_43 : decode cX3_copyFrom 43 = .ok (.invokestatic 67, 3) := by decide +kernel
theorem dX3_copyFrom_46 : decode cX3_copyFrom 46 = .ok (.aload_n 1, 1) := by decide +kernel
theorem dX3_copyFrom_47 : decode cX3_copyFrom 47 = .ok (.getfield 18, 3) := by decide +kernel
theorem dX3_copyFrom_50 : decode cX3_copyFrom 50 = .ok (.iconst 0, 1) := by decide +kernel
theorem dX3_copyFrom_51 : decode cX3_copyFrom 51 = .ok (.aload_n 0, 1) := by decide +kernel
theorem dX3_copyFrom_52 : decode cX3_copyFrom 52 = .ok (.getfield 18, 3) := by decide +kernel
theorem dX3_copyFrom_55 : decode cX3_copyFrom 55 = .ok (.iconst 0, 1) := by decide +kernel
theorem dX3_copyFrom_56 : decode cX3_copyFrom 56 = .ok (.bipush 10, 2) := by decide +kernel
theorem dX3_copyFrom_58 : decode cX3_copyFrom 58 = .ok (.invokestatic 67, 3) := by decide +kernel
theorem dX3_copyFrom_61 : decode cX3_copyFrom 61 = .ok (.aload_n 0, 1) := by decide +kernel
theorem dX3_copyFrom_62 : decode cX3_copyFrom 62 = .ok (.aload_n 1, 1) := by decide +kernel
theorem dX3_copyFrom_63 : decode cX3_copyFrom 63 = .ok (.getfield 28, 3) := by decide +kernel
theorem dX3_copyFrom_66 : decode cX3_copyFrom 66 = .ok (.aload_n 1, 1) := by decide +kernel
theorem dX3_copyFrom_67 : decode cX3_copyFrom 67 = .ok (.getfield 31, 3) := by decide +kernel
theorem dX3_copyFrom_70 : decode cX3_copyFrom 70 = .ok (.aload_n 1, 1) := by decide +kernel
theorem dX3_copyFrom_71 : decode cX3_copyFrom 71 = .ok (.getfield 34, 3) := by decide +kernel
theorem dX3_copyFrom_74 : decode cX3_copyFrom 74 = .ok (.invokevirtual 61, 3) := by decide +kernel
theorem dX3_copyFrom_77 : decode cX3_copyFrom 77 = .ok (.aload_n 0, 1) := by decide +kernel
theorem dX3_copyFrom_78 : decode cX3_copyFrom 78 = .ok (.aload_n 1, 1) := by decide +kernel
theorem dX3_copyFrom_79 : decode cX3_copyFrom 79 = .ok (.getfield 37, 3) := by decide +kernel
theorem dX3_copyFrom_82 : decode cX3_copyFrom 82 = .ok (.aload_n 1, 1) := by decide +kernel
theorem dX3_copyFrom_83 : decode cX3_copyFrom 83 = .ok (.getfield 40, 3) := by decide +kernel
theorem dX3_copyFrom_86 : decode cX3_copyFrom 86 = .ok (.invokevirtual 64, 3) := by decide +kernel
theorem dX3_copyFrom_89 : decode cX3_copyFrom 89 = .ok (.return_, 1) := by decide +kernel
theorem dX3_dots_0 : decode cX3_dots 0 = .ok (.aload_n 0, 1) := by decide +kernel
theorem dX3_dots_1 : decode cX3_dots 1 = .ok (.getfield 21, 3) := by decide +kernel
theorem dX3_dots_4 : decode cX3_dots 4 = .ok (.aload_n 0, 1) := by decide +kernel
theorem dX3_dots_5 : decode cX3_dots 5 = .ok (.getfield 25, 3) := by decide +kernel
theorem dX3_dots_8 : decode cX3_dots 8 = .ok (.imul, 1) := by decide +kernel
theorem dX3_dots_9 : decode cX3_dots 9 = .ok (.ireturn, 1) := by decide +kernel
theorem dX3_has_0 : decode cX3_has 0 = .ok (.iload_n 1, 1) := by decide +kernel
theorem dX3_has_1 : decode cX3_has 1 = .ok (.ifCond .lt 26, 3) := by decide +kernel
theorem dX3_has_4 : decode cX3_has 4 = .ok (.iload_n 1, 1) := by decide +kernel
theorem dX3_has_5 : decode cX3_has 5 = .ok (.aload_n 0, 1) := by decide +kernel
theorem dX3_has_6 : decode cX3_has 6 = .ok (.getfield 21, 3) := by decide +kernel
theorem dX3_has_9 : decode cX3_has 9 = .ok (.aload_n 0, 1) := by decide +kernel
theorem dX3_has_10 : decode cX3_has 10 = .ok (.getfield 25, 3) := by decide +kernel
theorem dX3_has_13 : decode cX3_has 13 = .ok (.imul, 1) := by decide +kernel
theorem dX3_has_14 : decode cX3_has 14 = .ok (.if_icmp .ge 13, 3) := by decide +kernel
theorem dX3_has_17 : decode cX3_has 17 = .ok (.iload_n 1, 1) := by decide +kernel
theorem dX3_has_18 : decode cX3_has 18 = .ok (.bipush 25, 2) := by decide +kernel
theorem dX3_has_20 : decode cX3_has 20 = .ok (.if_icmp .ge 7, 3) := by decide +kernel
theorem dX3_has_23 : decode cX3_has 23 = .ok (.iconst 1, 1) := by decide +kernel
theorem dX3_has_24 : decode cX3_has 24 = .ok (.goto 4, 3) := by decide +kernel
theorem dX3_has_27 : decode cX3_has 27 = .ok (.iconst 0, 1) := by decide +kernel
theorem dX3_has_28 : decode cX3_has 28 = .ok (.ireturn, 1) := by decide +kernel
theorem dX3_hasRow_0 : decode cX3_hasRow 0 = .ok (.iload_n 1, 1) := by decide +kernel
theorem dX3_hasRow_1 : decode cX3_hasRow 1 = .ok (.ifCond .lt 15, 3) := by decide +kernel
theorem dX3_hasRow_4 : decode cX3_hasRow 4 = .ok (.iload_n 1, 1) := by decide +kernel
theorem dX3_hasRow_5 : decode cX3_hasRow 5 = .ok (.aload_n 0, 1) := by decide +kernel
theorem dX3_hasRow_6 : decode cX3_hasRow 6 = .ok (.getfield 25, 3) := by decide +kernel
theorem dX3_hasRow_9 : decode cX3_hasRow 9 = .ok (.if_icmp .ge 7, 3) := by decide +kernel
theorem dX3_hasRow_12 : decode cX3_hasRow 12 = .ok (.iconst 1, 1) := by decide +kernel
theorem dX3_hasRow_13 : decode cX3_hasRow 13 = .ok (.goto 4, 3) := by decide +kernel
theorem dX3_hasRow_16 : decode cX3_hasRow 16 = .ok (.iconst 0, 1) := by decide +kernel
theorem dX3_hasRow_17 : decode cX3_hasRow 17 = .ok (.ireturn, 1) := by decide +kernel
theorem dX3_greyOf_0 : decode cX3_greyOf 0 = .ok (.iload_n 2, 1) := by decide +kernel
theorem dX3_greyOf_1 : decode cX3_greyOf 1 = .ok (.ifCond .lt 9, 3) := by decide +kernel
theorem dX3_greyOf_4 : decode cX3_greyOf 4 = .ok (.iload_n 2, 1) := by decide +kernel
theorem dX3_greyOf_5 : decode cX3_greyOf 5 = .ok (.bipush 25, 2) := by decide +kernel
theorem dX3_greyOf_7 : decode cX3_greyOf 7 = .ok (.if_icmp .lt 6, 3) := by decide +kernel
theorem dX3_greyOf_10 : decode cX3_greyOf 10 = .ok (.bipush 9, 2) := by decide +kernel
theorem dX3_greyOf_12 : decode cX3_greyOf 12 = .ok (.ireturn, 1) := by decide +kernel
theorem dX3_greyOf_13 : decode cX3_greyOf 13 = .ok (.iload_n 1, 1) := by decide +kernel
theorem dX3_greyOf_14 : decode cX3_greyOf 14 = .ok (.ifCond .ne 12, 3) := by decide +kernel
theorem dX3_greyOf_17 : decode cX3_greyOf 17 = .ok (.aload_n 0, 1) := by decide +kernel
theorem dX3_greyOf_18 : decode cX3_greyOf 18 = .ok (.getfield 9, 3) := by decide +kernel
theorem dX3_greyOf_21 : decode cX3_greyOf 21 = .ok (.iload_n 2, 1) := by decide +kernel
theorem dX3_greyOf_22 : decode cX3_greyOf 22 = .ok (.iaload, 1) := by decide +kernel
theorem dX3_greyOf_23 : decode cX3_greyOf 23 = .ok (.goto 9, 3) := by decide +kernel
theorem dX3_greyOf_26 : decode cX3_greyOf 26 = .ok (.aload_n 0, 1) := by decide +kernel
theorem dX3_greyOf_27 : decode cX3_greyOf 27 = .ok (.getfield 15, 3) := by decide +kernel
theorem dX3_greyOf_30 : decode cX3_greyOf 30 = .ok (.iload_n 2, 1) := by decide +kernel
theorem dX3_greyOf_31 : decode cX3_greyOf 31 = .ok (.iaload, 1) := by decide +kernel
theorem dX3_greyOf_32 : decode cX3_greyOf 32 = .ok (.ireturn, 1) := by decide +kernel
theorem dX3_setGrey_0 : decode cX3_setGrey 0 = .ok (.aload_n 0, 1) := by decide +kernel
theorem dX3_setGrey_1 : decode cX3_setGrey 1 = .ok (.iload_n 2, 1) := by decide +kernel
theorem dX3_setGrey_2 : decode cX3_setGrey 2 = .ok (.invokevirtual 73, 3) := by decide +kernel
theorem dX3_setGrey_5 : decode cX3_setGrey 5 = .ok (.ifCond .eq 24, 3) := by decide +kernel
theorem dX3_setGrey_8 : decode cX3_setGrey 8 = .ok (.iload_n 1, 1) := by decide +kernel
theorem dX3_setGrey_9 : decode cX3_setGrey 9 = .ok (.ifCond .ne 13, 3) := by decide +kernel
theorem dX3_setGrey_12 : decode cX3_setGrey 12 = .ok (.aload_n 0, 1) := by decide +kernel
theorem dX3_setGrey_13 : decode cX3_setGrey 13 = .ok (.getfield 9, 3) := by decide +kernel
theorem dX3_setGrey_16 : decode cX3_setGrey 16 = .ok (.iload_n 2, 1) := by decide +kernel
theorem dX3_setGrey_17 : decode cX3_setGrey 17 = .ok (.iload_n 3, 1) := by decide +kernel
theorem dX3_setGrey_18 : decode cX3_setGrey 18 = .ok (.iastore, 1) := by decide +kernel
theorem dX3_setGrey_19 : decode cX3_setGrey 19 = .ok (.goto 10, 3) := by decide +kernel
theorem dX3_setGrey_22 : decode cX3_setGrey 22 = .ok (.aload_n 0, 1) := by decide +kernel
theorem dX3_setGrey_23 : decode cX3_setGrey 23 = .ok (.getfield 15, 3) := by decide +kernel
theorem dX3_setGrey_26 : decode cX3_setGrey 26 = .ok (.iload_n 2, 1) := by decide +kernel
theorem dX3_setGrey_27 : decode cX3_setGrey 27 = .ok (.iload_n 3, 1) := by decide +kernel
theorem dX3_setGrey_28 : decode cX3_setGrey 28 = .ok (.iastore, 1) := by decide +kernel
theorem dX3_setGrey_29 : decode cX3_setGrey 29 = .ok (.return_, 1) := by decide +kernel
theorem dX3_shownFor_0 : decode cX3_shownFor 0 = .ok (.iload_n 1, 1) := by decide +kernel
theorem dX3_shownFor_1 : decode cX3_shownFor 1 = .ok (.ifCond .lt 18, 3) := by decide +kernel
theorem dX3_shownFor_4 : decode cX3_shownFor 4 = .ok (.iload_n 1, 1) := by decide +kernel
theorem dX3_shownFor_5 : decode cX3_shownFor 5 = .ok (.bipush 10, 2) := by decide +kernel
theorem dX3_shownFor_7 : decode cX3_shownFor 7 = .ok (.if_icmp .ge 12, 3) := by decide +kernel
theorem dX3_shownFor_10 : decode cX3_shownFor 10 = .ok (.aload_n 0, 1) := by decide +kernel
theorem dX3_shownFor_11 : decode cX3_shownFor 11 = .ok (.getfield 18, 3) := by decide +kernel
theorem dX3_shownFor_14 : decode cX3_shownFor 14 = .ok (.iload_n 1, 1) := by decide +kernel
theorem dX3_shownFor_15 : decode cX3_shownFor 15 = .ok (.iaload, 1) := by decide +kernel
theorem dX3_shownFor_16 : decode cX3_shownFor 16 = .ok (.goto 4, 3) := by decide +kernel
theorem dX3_shownFor_19 : decode cX3_shownFor 19 = .ok (.iconst 0, 1) := by decide +kernel
theorem dX3_shownFor_20 : decode cX3_shownFor 20 = .ok (.ireturn, 1) := by decide +kernel
theorem dX3_setShown_0 : decode cX3_setShown 0 = .ok (.iload_n 1, 1) := by decide +kernel
theorem dX3_setShown_1 : decode cX3_setShown 1 = .ok (.invokestatic 77, 3) := by decide +kernel
theorem dX3_setShown_4 : decode cX3_setShown 4 = .ok (.ifCond .eq 10, 3) := by decide +kernel
theorem dX3_setShown_7 : decode cX3_setShown 7 = .ok (.aload_n 0, 1) := by decide +kernel
theorem dX3_setShown_8 : decode cX3_setShown 8 = .ok (.getfield 18, 3) := by decide +kernel
theorem dX3_setShown_11 : decode cX3_setShown 11 = .ok (.iload_n 1, 1) := by decide +kernel
theorem dX3_setShown_12 : decode cX3_setShown 12 = .ok (.iload_n 2, 1) := by decide +kernel
theorem dX3_setShown_13 : decode cX3_setShown 13 = .ok (.iastore, 1) := by decide +kernel
theorem dX3_setShown_14 : decode cX3_setShown 14 = .ok (.return_, 1) := by decide +kernel
theorem dX3_setRule_0 : decode cX3_setRule 0 = .ok (.aload_n 0, 1) := by decide +kernel
theorem dX3_setRule_1 : decode cX3_setRule 1 = .ok (.iload_n 1, 1) := by decide +kernel
theorem dX3_setRule_2 : decode cX3_setRule 2 = .ok (.putfield 28, 3) := by decide +kernel
theorem dX3_setRule_5 : decode cX3_setRule 5 = .ok (.aload_n 0, 1) := by decide +kernel
theorem dX3_setRule_6 : decode cX3_setRule 6 = .ok (.iload_n 2, 1) := by decide +kernel
theorem dX3_setRule_7 : decode cX3_setRule 7 = .ok (.putfield 31, 3) := by decide +kernel
theorem dX3_setRule_10 : decode cX3_setRule 10 = .ok (.aload_n 0, 1) := by decide +kernel
theorem dX3_setRule_11 : decode cX3_setRule 11 = .ok (.iload_n 3, 1) := by decide +kernel
theorem dX3_setRule_12 : decode cX3_setRule 12 = .ok (.putfield 34, 3) := by decide +kernel
theorem dX3_setRule_15 : decode cX3_setRule 15 = .ok (.return_, 1) := by decide +kernel
theorem dX3_setLie_0 : decode cX3_setLie 0 = .ok (.aload_n 0, 1) := by decide +kernel
theorem dX3_setLie_1 : decode cX3_setLie 1 = .ok (.iload_n 1, 1) := by decide +kernel
theorem dX3_setLie_2 : decode cX3_setLie 2 = .ok (.putfield 37, 3) := by decide +kernel
theorem dX3_setLie_5 : decode cX3_setLie 5 = .ok (.aload_n 0, 1) := by decide +kernel
theorem dX3_setLie_6 : decode cX3_setLie 6 = .ok (.iload_n 2, 1) := by decide +kernel
theorem dX3_setLie_7 : decode cX3_setLie 7 = .ok (.putfield 40, 3) := by decide +kernel
theorem dX3_setLie_10 : decode cX3_setLie 10 = .ok (.return_, 1) := by decide +kernel
theorem dX3_greysTogether_0 : decode cX3_greysTogether 0 = .ok (.iconst 0, 1) := by decide +kernel
theorem dX3_greysTogether_1 : decode cX3_greysTogether 1 = .ok (.istore_n 1, 1) := by decide +kernel
theorem dX3_greysTogether_2 : decode cX3_greysTogether 2 = .ok (.iconst 0, 1) := by decide +kernel
theorem dX3_greysTogether_3 : decode cX3_greysTogether 3 = .ok (.istore_n 2, 1) := by decide +kernel
theorem dX3_greysTogether_4 : decode cX3_greysTogether 4 = .ok (.iload_n 2, 1) := by decide +kernel
theorem dX3_greysTogether_5 : decode cX3_greysTogether 5 = .ok (.aload_n 0, 1) := by decide +kernel
theorem dX3_greysTogether_6 : decode cX3_greysTogether 6 = .ok (.invokevirtual 49, 3) := by decide +kernel
theorem dX3_greysTogether_9 : decode cX3_greysTogether 9 = .ok (.if_icmp .ge 18, 3) := by decide +kernel
theorem dX3_greysTogether_12 : decode cX3_greysTogether 12 = .ok (.iload_n 1, 1) := by decide +kernel
theorem dX3_greysTogether_13 : decode cX3_greysTogether 13 = .ok (.aload_n 0, 1) := by decide +kernel
theorem dX3_greysTogether_14 : decode cX3_greysTogether 14 = .ok (.iconst 0, 1) := by decide +kernel
theorem dX3_greysTogether_15 : decode cX3_greysTogether 15 = .ok (.iload_n 2, 1) := by decide +kernel
theorem dX3_greysTogether_16 : decode cX3_greysTogether 16 = .ok (.invokevirtual 80, 3) := by decide +kernel
theorem dX3_greysTogether_19 : decode cX3_greysTogether 19 = .ok (.iadd, 1) := by decide +kernel
theorem dX3_greysTogether_20 : decode cX3_greysTogether 20 = .ok (.istore_n 1, 1) := by decide +kernel
theorem dX3_greysTogether_21 : decode cX3_greysTogether 21 = .ok (.iinc 2 1, 3) := by decide +kernel
theorem dX3_greysTogether_24 : decode cX3_greysTogether 24 = .ok (.goto (-20), 3) := by decide +kernel
theorem dX3_greysTogether_27 : decode cX3_greysTogether 27 = .ok (.iload_n 1, 1) := by decide +kernel
theorem dX3_greysTogether_28 : decode cX3_greysTogether 28 = .ok (.ireturn, 1) := by decide +kernel
theorem dX3_staysGrey_0 : decode cX3_staysGrey 0 = .ok (.iconst 1, 1) := by decide +kernel
theorem dX3_staysGrey_1 : decode cX3_staysGrey 1 = .ok (.istore_n 2, 1) := by decide +kernel
theorem dX3_staysGrey_2 : decode cX3_staysGrey 2 = .ok (.iconst 0, 1) := by decide +kernel
theorem dX3_staysGrey_3 : decode cX3_staysGrey 3 = .ok (.istore_n 3, 1) := by decide +kernel
theorem dX3_staysGrey_4 : decode cX3_staysGrey 4 = .ok (.iload_n 3, 1) := by decide +kernel
theorem dX3_staysGrey_5 : decode cX3_staysGrey 5 = .ok (.aload_n 0, 1) := by decide +kernel
theorem dX3_staysGrey_6 : decode cX3_staysGrey 6 = .ok (.invokevirtual 49, 3) := by decide +kernel
theorem dX3_staysGrey_9 : decode cX3_staysGrey 9 = .ok (.if_icmp .ge 33, 3) := by decide +kernel
theorem dX3_staysGrey_12 : decode cX3_staysGrey 12 = .ok (.iload_n 2, 1) := by decide +kernel
theorem dX3_staysGrey_13 : decode cX3_staysGrey 13 = .ok (.ifCond .eq 21, 3) := by decide +kernel
theorem dX3_staysGrey_16 : decode cX3_staysGrey 16 = .ok (.aload_n 0, 1) := by decide +kernel
theorem dX3_staysGrey_17 : decode cX3_staysGrey 17 = .ok (.iconst 0, 1) := by decide +kernel
theorem dX3_staysGrey_18 : decode cX3_staysGrey 18 = .ok (.iload_n 3, 1) := by decide +kernel
theorem dX3_staysGrey_19 : decode cX3_staysGrey 19 = .ok (.invokevirtual 80, 3) := by decide +kernel
theorem dX3_staysGrey_22 : decode cX3_staysGrey 22 = .ok (.iload_n 1, 1) := by decide +kernel
theorem dX3_staysGrey_23 : decode cX3_staysGrey 23 = .ok (.iadd, 1) := by decide +kernel
theorem dX3_staysGrey_24 : decode cX3_staysGrey 24 = .ok (.invokestatic 77, 3) := by decide +kernel
theorem dX3_staysGrey_27 : decode cX3_staysGrey 27 = .ok (.ifCond .eq 7, 3) := by decide +kernel
theorem dX3_staysGrey_30 : decode cX3_staysGrey 30 = .ok (.iconst 1, 1) := by decide +kernel
theorem dX3_staysGrey_31 : decode cX3_staysGrey 31 = .ok (.goto 4, 3) := by decide +kernel
theorem dX3_staysGrey_34 : decode cX3_staysGrey 34 = .ok (.iconst 0, 1) := by decide +kernel
theorem dX3_staysGrey_35 : decode cX3_staysGrey 35 = .ok (.istore_n 2, 1) := by decide +kernel
theorem dX3_staysGrey_36 : decode cX3_staysGrey 36 = .ok (.iinc 3 1, 3) := by decide +kernel
theorem dX3_staysGrey_39 : decode cX3_staysGrey 39 = .ok (.goto (-35), 3) := by decide +kernel
theorem dX3_staysGrey_42 : decode cX3_staysGrey 42 = .ok (.iload_n 2, 1) := by decide +kernel
theorem dX3_staysGrey_43 : decode cX3_staysGrey 43 = .ok (.ireturn, 1) := by decide +kernel
theorem dX3_lighten_0 : decode cX3_lighten 0 = .ok (.iconst 0, 1) := by decide +kernel
theorem dX3_lighten_1 : decode cX3_lighten 1 = .ok (.istore_n 2, 1) := by decide +kernel
theorem dX3_lighten_2 : decode cX3_lighten 2 = .ok (.iload_n 2, 1) := by decide +kernel
theorem dX3_lighten_3 : decode cX3_lighten 3 = .ok (.aload_n 0, 1) := by decide +kernel
theorem dX3_lighten_4 : decode cX3_lighten 4 = .ok (.invokevirtual 49, 3) := by decide +kernel
theorem dX3_lighten_7 : decode cX3_lighten 7 = .ok (.if_icmp .ge 23, 3) := by decide +kernel
theorem dX3_lighten_10 : decode cX3_lighten 10 = .ok (.aload_n 0, 1) := by decide +kernel
theorem dX3_lighten_11 : decode cX3_lighten 11 = .ok (.iconst 0, 1) := by decide +kernel
theorem dX3_lighten_12 : decode cX3_lighten 12 = .ok (.iload_n 2, 1) := by decide +kernel
theorem dX3_lighten_13 : decode cX3_lighten 13 = .ok (.aload_n 0, 1) := by decide +kernel
theorem dX3_lighten_14 : decode cX3_lighten 14 = .ok (.iconst 0, 1) := by decide +kernel
theorem dX3_lighten_15 : decode cX3_lighten 15 = .ok (.iload_n 2, 1) := by decide +kernel
theorem dX3_lighten_16 : decode cX3_lighten 16 = .ok (.invokevirtual 80, 3) := by decide +kernel
theorem dX3_lighten_19 : decode cX3_lighten 19 = .ok (.iload_n 1, 1) := by decide +kernel
theorem dX3_lighten_20 : decode cX3_lighten 20 = .ok (.iadd, 1) := by decide +kernel
theorem dX3_lighten_21 : decode cX3_lighten 21 = .ok (.invokevirtual 53, 3) := by decide +kernel
theorem dX3_lighten_24 : decode cX3_lighten 24 = .ok (.iinc 2 1, 3) := by decide +kernel
theorem dX3_lighten_27 : decode cX3_lighten 27 = .ok (.goto (-25), 3) := by decide +kernel
theorem dX3_lighten_30 : decode cX3_lighten 30 = .ok (.return_, 1) := by decide +kernel
theorem dX3_whiten_0 : decode cX3_whiten 0 = .ok (.iconst 0, 1) := by decide +kernel
theorem dX3_whiten_1 : decode cX3_whiten 1 = .ok (.istore_n 3, 1) := by decide +kernel
theorem dX3_whiten_2 : decode cX3_whiten 2 = .ok (.iload_n 3, 1) := by decide +kernel
theorem dX3_whiten_3 : decode cX3_whiten 3 = .ok (.aload_n 0, 1) := by decide +kernel
theorem dX3_whiten_4 : decode cX3_whiten 4 = .ok (.getfield 21, 3) := by decide +kernel
theorem dX3_whiten_7 : decode cX3_whiten 7 = .ok (.if_icmp .ge 32, 3) := by decide +kernel
theorem dX3_whiten_10 : decode cX3_whiten 10 = .ok (.iload_n 2, 1) := by decide +kernel
theorem dX3_whiten_11 : decode cX3_whiten 11 = .ok (.iconst 1, 1) := by decide +kernel
theorem dX3_whiten_12 : decode cX3_whiten 12 = .ok (.iload_n 3, 1) := by decide +kernel
theorem dX3_whiten_13 : decode cX3_whiten 13 = .ok (.ishl, 1) := by decide +kernel
theorem dX3_whiten_14 : decode cX3_whiten 14 = .ok (.iand, 1) := by decide +kernel
theorem dX3_whiten_15 : decode cX3_whiten 15 = .ok (.ifCond .eq 18, 3) := by decide +kernel
theorem dX3_whiten_18 : decode cX3_whiten 18 = .ok (.aload_n 0, 1) := by decide +kernel
theorem dX3_whiten_19 : decode cX3_whiten 19 = .ok (.iconst 0, 1) := by decide +kernel
theorem dX3_whiten_20 : decode cX3_whiten 20 = .ok (.iload_n 1, 1) := by decide +kernel
theorem dX3_whiten_21 : decode cX3_whiten 21 = .ok (.aload_n 0, 1) := by decide +kernel
theorem dX3_whiten_22 : decode cX3_whiten 22 = .ok (.getfield 21, 3) := by decide +kernel
theorem dX3_whiten_25 : decode cX3_whiten 25 = .ok (.imul, 1) := by decide +kernel
theorem dX3_whiten_26 : decode cX3_whiten 26 = .ok (.iload_n 3, 1) := by decide +kernel
theorem dX3_whiten_27 : decode cX3_whiten 27 = .ok (.iadd, 1) := by decide +kernel
theorem dX3_whiten_28 : decode cX3_whiten 28 = .ok (.bipush 9, 2) := by decide +kernel
theorem dX3_whiten_30 : decode cX3_whiten 30 = .ok (.invokevirtual 53, 3) := by decide +kernel
theorem dX3_whiten_33 : decode cX3_whiten 33 = .ok (.iinc 3 1, 3) := by decide +kernel
theorem dX3_whiten_36 : decode cX3_whiten 36 = .ok (.goto (-34), 3) := by decide +kernel
theorem dX3_whiten_39 : decode cX3_whiten 39 = .ok (.return_, 1) := by decide +kernel
theorem dX3_columnOf_0 : decode cX3_columnOf 0 = .ok (.aload_n 0, 1) := by decide +kernel
theorem dX3_columnOf_1 : decode cX3_columnOf 1 = .ok (.getfield 21, 3) := by decide +kernel
theorem dX3_columnOf_4 : decode cX3_columnOf 4 = .ok (.ifCond .ne 7, 3) := by decide +kernel
theorem dX3_columnOf_7 : decode cX3_columnOf 7 = .ok (.iconst 0, 1) := by decide +kernel
theorem dX3_columnOf_8 : decode cX3_columnOf 8 = .ok (.goto 9, 3) := by decide +kernel
theorem dX3_columnOf_11 : decode cX3_columnOf 11 = .ok (.iload_n 1, 1) := by decide +kernel
theorem dX3_columnOf_12 : decode cX3_columnOf 12 = .ok (.aload_n 0, 1) := by decide +kernel
theorem dX3_columnOf_13 : decode cX3_columnOf 13 = .ok (.getfield 21, 3) := by decide +kernel
theorem dX3_columnOf_16 : decode cX3_columnOf 16 = .ok (.irem, 1) := by decide +kernel
theorem dX3_columnOf_17 : decode cX3_columnOf 17 = .ok (.ireturn, 1) := by decide +kernel
theorem dX3_rowOf_0 : decode cX3_rowOf 0 = .ok (.aload_n 0, 1) := by decide +kernel
theorem dX3_rowOf_1 : decode cX3_rowOf 1 = .ok (.getfield 21, 3) := by decide +kernel
theorem dX3_rowOf_4 : decode cX3_rowOf 4 = .ok (.ifCond .ne 7, 3) := by decide +kernel
theorem dX3_rowOf_7 : decode cX3_rowOf 7 = .ok (.iconst 0, 1) := by decide +kernel
theorem dX3_rowOf_8 : decode cX3_rowOf 8 = .ok (.goto 9, 3) := by decide +kernel
theorem dX3_rowOf_11 : decode cX3_rowOf 11 = .ok (.iload_n 1, 1) := by decide +kernel
theorem dX3_rowOf_12 : decode cX3_rowOf 12 = .ok (.aload_n 0, 1) := by decide +kernel
theorem dX3_rowOf_13 : decode cX3_rowOf 13 = .ok (.getfield 21, 3) := by decide +kernel
theorem dX3_rowOf_16 : decode cX3_rowOf 16 = .ok (.idiv, 1) := by decide +kernel
theorem dX3_rowOf_17 : decode cX3_rowOf 17 = .ok (.ireturn, 1) := by decide +kernel
theorem dX3_lyingUnder_0 : decode cX3_lyingUnder 0 = .ok (.aload_n 0, 1) := by decide +kernel
theorem dX3_lyingUnder_1 : decode cX3_lyingUnder 1 = .ok (.getfield 21, 3) := by decide +kernel
theorem dX3_lyingUnder_4 : decode cX3_lyingUnder 4 = .ok (.ifCond .ne 6, 3) := by decide +kernel
theorem dX3_lyingUnder_7 : decode cX3_lyingUnder 7 = .ok (.bipush (-9), 2) := by decide +kernel
theorem dX3_lyingUnder_9 : decode cX3_lyingUnder 9 = .ok (.ireturn, 1) := by decide +kernel
theorem dX3_lyingUnder_10 : decode cX3_lyingUnder 10 = .ok (.aload_n 0, 1) := by decide +kernel
theorem dX3_lyingUnder_11 : decode cX3_lyingUnder 11 = .ok (.getfield 21, 3) := by decide +kernel
theorem dX3_lyingUnder_14 : decode cX3_lyingUnder 14 = .ok (.iconst 1, 1) := by decide +kernel
theorem dX3_lyingUnder_15 : decode cX3_lyingUnder 15 = .ok (.isub, 1) := by decide +kernel
theorem dX3_lyingUnder_16 : decode cX3_lyingUnder 16 = .ok (.iload_n 1, 1) := by decide +kernel
theorem dX3_lyingUnder_17 : decode cX3_lyingUnder 17 = .ok (.aload_n 0, 1) := by decide +kernel
theorem dX3_lyingUnder_18 : decode cX3_lyingUnder 18 = .ok (.getfield 21, 3) := by decide +kernel
theorem dX3_lyingUnder_21 : decode cX3_lyingUnder 21 = .ok (.irem, 1) := by decide +kernel
theorem dX3_lyingUnder_22 : decode cX3_lyingUnder 22 = .ok (.isub, 1) := by decide +kernel
theorem dX3_lyingUnder_23 : decode cX3_lyingUnder 23 = .ok (.iload_n 2, 1) := by decide +kernel
theorem dX3_lyingUnder_24 : decode cX3_lyingUnder 24 = .ok (.iadd, 1) := by decide +kernel
theorem dX3_lyingUnder_25 : decode cX3_lyingUnder 25 = .ok (.istore 4, 2) := by decide +kernel
theorem dX3_lyingUnder_27 : decode cX3_lyingUnder 27 = .ok (.iload_n 1, 1) := by decide +kernel
theorem dX3_lyingUnder_28 : decode cX3_lyingUnder 28 = .ok (.aload_n 0, 1) := by decide +kernel
theorem dX3_lyingUnder_29 : decode cX3_lyingUnder 29 = .ok (.getfield 21, 3) := by decide +kernel
theorem dX3_lyingUnder_32 : decode cX3_lyingUnder 32 = .ok (.idiv, 1) := by decide +kernel
theorem dX3_lyingUnder_33 : decode cX3_lyingUnder 33 = .ok (.iload_n 3, 1) := by decide +kernel
theorem dX3_lyingUnder_34 : decode cX3_lyingUnder 34 = .ok (.iadd, 1) := by decide +kernel
theorem dX3_lyingUnder_35 : decode cX3_lyingUnder 35 = .ok (.istore 5, 2) := by decide +kernel
theorem dX3_lyingUnder_37 : decode cX3_lyingUnder 37 = .ok (.iload 4, 2) := by decide +kernel
theorem dX3_lyingUnder_39 : decode cX3_lyingUnder 39 = .ok (.ifCond .lt 30, 3) := by decide +kernel
theorem dX3_lyingUnder_42 : decode cX3_lyingUnder 42 = .ok (.iload 4, 2) := by decide +kernel
theorem dX3_lyingUnder_44 : decode cX3_lyingUnder 44 = .ok (.aload_n 0, 1) := by decide +kernel
theorem dX3_lyingUnder_45 : decode cX3_lyingUnder 45 = .ok (.getfield 21, 3) := by decide +kernel
theorem dX3_lyingUnder_48 : decode cX3_lyingUnder 48 = .ok (.if_icmp .ge 21, 3) := by decide +kernel
theorem dX3_lyingUnder_51 : decode cX3_lyingUnder 51 = .ok (.iload 5, 2) := by decide +kernel
theorem dX3_lyingUnder_53 : decode cX3_lyingUnder 53 = .ok (.ifCond .lt 16, 3) := by decide +kernel
theorem dX3_lyingUnder_56 : decode cX3_lyingUnder 56 = .ok (.iload 5, 2) := by decide +kernel
theorem dX3_lyingUnder_58 : decode cX3_lyingUnder 58 = .ok (.aload_n 0, 1) := by decide +kernel
theorem dX3_lyingUnder_59 : decode cX3_lyingUnder 59 = .ok (.getfield 25, 3) := by decide +kernel
theorem dX3_lyingUnder_62 : decode cX3_lyingUnder 62 = .ok (.if_icmp .ge 7, 3) := by decide +kernel
theorem dX3_lyingUnder_65 : decode cX3_lyingUnder 65 = .ok (.iconst 1, 1) := by decide +kernel
theorem dX3_lyingUnder_66 : decode cX3_lyingUnder 66 = .ok (.goto 4, 3) := by decide +kernel
theorem dX3_lyingUnder_69 : decode cX3_lyingUnder 69 = .ok (.iconst 0, 1) := by decide +kernel
theorem dX3_lyingUnder_70 : decode cX3_lyingUnder 70 = .ok (.istore 6, 2) := by decide +kernel
theorem dX3_lyingUnder_72 : decode cX3_lyingUnder 72 = .ok (.iload 6, 2) := by decide +kernel
theorem dX3_lyingUnder_74 : decode cX3_lyingUnder 74 = .ok (.ifCond .eq 16, 3) := by decide +kernel
theorem dX3_lyingUnder_77 : decode cX3_lyingUnder 77 = .ok (.iload 5, 2) := by decide +kernel
theorem dX3_lyingUnder_79 : decode cX3_lyingUnder 79 = .ok (.aload_n 0, 1) := by decide +kernel
theorem dX3_lyingUnder_80 : decode cX3_lyingUnder 80 = .ok (.getfield 21, 3) := by decide +kernel
theorem dX3_lyingUnder_83 : decode cX3_lyingUnder 83 = .ok (.imul, 1) := by decide +kernel
theorem dX3_lyingUnder_84 : decode cX3_lyingUnder 84 = .ok (.iload 4, 2) := by decide +kernel
theorem dX3_lyingUnder_86 : decode cX3_lyingUnder 86 = .ok (.iadd, 1) := by decide +kernel
theorem dX3_lyingUnder_87 : decode cX3_lyingUnder 87 = .ok (.goto 5, 3) := by decide +kernel
theorem dX3_lyingUnder_90 : decode cX3_lyingUnder 90 = .ok (.bipush (-9), 2) := by decide +kernel
theorem dX3_lyingUnder_92 : decode cX3_lyingUnder 92 = .ok (.ireturn, 1) := by decide +kernel
theorem dX3_greyAlone_0 : decode cX3_greyAlone 0 = .ok (.aload_n 0, 1) := by decide +kernel
theorem dX3_greyAlone_1 : decode cX3_greyAlone 1 = .ok (.iconst 0, 1) := by decide +kernel
theorem dX3_greyAlone_2 : decode cX3_greyAlone 2 = .ok (.iload_n 1, 1) := by decide +kernel
theorem dX3_greyAlone_3 : decode cX3_greyAlone 3 = .ok (.invokevirtual 80, 3) := by decide +kernel
theorem dX3_greyAlone_6 : decode cX3_greyAlone 6 = .ok (.istore_n 2, 1) := by decide +kernel
theorem dX3_greyAlone_7 : decode cX3_greyAlone 7 = .ok (.aload_n 0, 1) := by decide +kernel
theorem dX3_greyAlone_8 : decode cX3_greyAlone 8 = .ok (.iload_n 1, 1) := by decide +kernel
theorem dX3_greyAlone_9 : decode cX3_greyAlone 9 = .ok (.aload_n 0, 1) := by decide +kernel
theorem dX3_greyAlone_10 : decode cX3_greyAlone 10 = .ok (.getfield 37, 3) := by decide +kernel
theorem dX3_greyAlone_13 : decode cX3_greyAlone 13 = .ok (.aload_n 0, 1) := by decide +kernel
theorem dX3_greyAlone_14 : decode cX3_greyAlone 14 = .ok (.getfield 40, 3) := by decide +kernel
theorem dX3_greyAlone_17 : decode cX3_greyAlone 17 = .ok (.invokevirtual 84, 3) := by decide +kernel
theorem dX3_greyAlone_20 : decode cX3_greyAlone 20 = .ok (.istore_n 3, 1) := by decide +kernel
theorem dX3_greyAlone_21 : decode cX3_greyAlone 21 = .ok (.iload_n 3, 1) := by decide +kernel
theorem dX3_greyAlone_22 : decode cX3_greyAlone 22 = .ok (.bipush (-9), 2) := by decide +kernel
theorem dX3_greyAlone_24 : decode cX3_greyAlone 24 = .ok (.if_icmp .ne 7, 3) := by decide +kernel
theorem dX3_greyAlone_27 : decode cX3_greyAlone 27 = .ok (.iload_n 2, 1) := by decide +kernel
theorem dX3_greyAlone_28 : decode cX3_greyAlone 28 = .ok (.goto 20, 3) := by decide +kernel
theorem dX3_greyAlone_31 : decode cX3_greyAlone 31 = .ok (.bipush 9, 2) := by decide +kernel
theorem dX3_greyAlone_33 : decode cX3_greyAlone 33 = .ok (.iload_n 2, 1) := by decide +kernel
theorem dX3_greyAlone_34 : decode cX3_greyAlone 34 = .ok (.aload_n 0, 1) := by decide +kernel
theorem dX3_greyAlone_35 : decode cX3_greyAlone 35 = .ok (.aload_n 0, 1) := by decide +kernel
theorem dX3_greyAlone_36 : decode cX3_greyAlone 36 = .ok (.iconst 1, 1) := by decide +kernel
theorem dX3_greyAlone_37 : decode cX3_greyAlone 37 = .ok (.iload_n 3, 1) := by decide +kernel
theorem dX3_greyAlone_38 : decode cX3_greyAlone 38 = .ok (.invokevirtual 80, 3) := by decide +kernel
theorem dX3_greyAlone_41 : decode cX3_greyAlone 41 = .ok (.invokevirtual 88, 3) := by decide +kernel
theorem dX3_greyAlone_44 : decode cX3_greyAlone 44 = .ok (.iadd, 1) := by decide +kernel
theorem dX3_greyAlone_45 : decode cX3_greyAlone 45 = .ok (.invokestatic 91, 3) := by decide +kernel
theorem dX3_greyAlone_48 : decode cX3_greyAlone 48 = .ok (.ireturn, 1) := by decide +kernel
theorem dX3_pairs_0 : decode cX3_pairs 0 = .ok (.iconst 0, 1) := by decide +kernel
theorem dX3_pairs_1 : decode cX3_pairs 1 = .ok (.istore_n 3, 1) := by decide +kernel
theorem dX3_pairs_2 : decode cX3_pairs 2 = .ok (.iconst 0, 1) := by decide +kernel
theorem dX3_pairs_3 : decode cX3_pairs 3 = .ok (.istore 4, 2) := by decide +kernel
theorem dX3_pairs_5 : decode cX3_pairs 5 = .ok (.iload 4, 2) := by decide +kernel
theorem dX3_pairs_7 : decode cX3_pairs 7 = .ok (.aload_n 0, 1) := by decide +kernel
theorem dX3_pairs_8 : decode cX3_pairs 8 = .ok (.invokevirtual 49, 3) := by decide +kernel
theorem dX3_pairs_11 : decode cX3_pairs 11 = .ok (.if_icmp .ge 30, 3) := by decide +kernel
theorem dX3_pairs_14 : decode cX3_pairs 14 = .ok (.iload_n 3, 1) := by decide +kernel
theorem dX3_pairs_15 : decode cX3_pairs 15 = .ok (.aload_n 0, 1) := by decide +kernel
theorem dX3_pairs_16 : decode cX3_pairs 16 = .ok (.iload 4, 2) := by decide +kernel
theorem dX3_pairs_18 : decode cX3_pairs 18 = .ok (.iload_n 1, 1) := by decide +kernel
theorem dX3_pairs_19 : decode cX3_pairs 19 = .ok (.iload_n 2, 1) := by decide +kernel
theorem dX3_pairs_20 : decode cX3_pairs 20 = .ok (.invokevirtual 84, 3) := by decide +kernel
theorem dX3_pairs_23 : decode cX3_pairs 23 = .ok (.bipush (-9), 2) := by decide +kernel
theorem dX3_pairs_25 : decode cX3_pairs 25 = .ok (.if_icmp .ne 7, 3) := by decide +kernel
theorem dX3_pairs_28 : decode cX3_pairs 28 = .ok (.iconst 0, 1) := by decide +kernel
theorem dX3_pairs_29 : decode cX3_pairs 29 = .ok (.goto 4, 3) := by decide +kernel
theorem dX3_pairs_32 : decode cX3_pairs 32 = .ok (.iconst 1, 1) := by decide +kernel
theorem dX3_pairs_33 : decode cX3_pairs 33 = .ok (.iadd, 1) := by decide +kernel
theorem dX3_pairs_34 : decode cX3_pairs 34 = .ok (.istore_n 3, 1) := by decide +kernel
theorem dX3_pairs_35 : decode cX3_pairs 35 = .ok (.iinc 4 1, 3) := by decide +kernel
theorem dX3_pairs_38 : decode cX3_pairs 38 = .ok (.goto (-33), 3) := by decide +kernel
theorem dX3_pairs_41 : decode cX3_pairs 41 = .ok (.iload_n 3, 1) := by decide +kernel
theorem dX3_pairs_42 : decode cX3_pairs 42 = .ok (.ireturn, 1) := by decide +kernel
theorem dX3_difference_0 : decode cX3_difference 0 = .ok (.iconst 0, 1) := by decide +kernel
theorem dX3_difference_1 : decode cX3_difference 1 = .ok (.istore_n 3, 1) := by decide +kernel
theorem dX3_difference_2 : decode cX3_difference 2 = .ok (.iconst 0, 1) := by decide +kernel
theorem dX3_difference_3 : decode cX3_difference 3 = .ok (.istore 4, 2) := by decide +kernel
theorem dX3_difference_5 : decode cX3_difference 5 = .ok (.iload 4, 2) := by decide +kernel
theorem dX3_difference_7 : decode cX3_difference 7 = .ok (.aload_n 0, 1) := by decide +kernel
theorem dX3_difference_8 : decode cX3_difference 8 = .ok (.invokevirtual 49, 3) := by decide +kernel
theorem dX3_difference_11 : decode cX3_difference 11 = .ok (.if_icmp .ge 51, 3) := by decide +kernel
theorem dX3_difference_14 : decode cX3_difference 14 = .ok (.aload_n 0, 1) := by decide +kernel
theorem dX3_difference_15 : decode cX3_difference 15 = .ok (.iload 4, 2) := by decide +kernel
theorem dX3_difference_17 : decode cX3_difference 17 = .ok (.iload_n 1, 1) := by decide +kernel
theorem dX3_difference_18 : decode cX3_difference 18 = .ok (.iload_n 2, 1) := by decide +kernel
theorem dX3_difference_19 : decode cX3_difference 19 = .ok (.invokevirtual 84, 3) := by decide +kernel
theorem dX3_difference_22 : decode cX3_difference 22 = .ok (.istore 5, 2) := by decide +kernel
theorem dX3_difference_24 : decode cX3_difference 24 = .ok (.iload 5, 2) := by decide +kernel
theorem dX3_difference_26 : decode cX3_difference 26 = .ok (.bipush (-9), 2) := by decide +kernel
theorem dX3_difference_28 : decode cX3_difference 28 = .ok (.if_icmp .eq 28, 3) := by decide +kernel
theorem dX3_difference_31 : decode cX3_difference 31 = .ok (.aload_n 0, 1) := by decide +kernel
theorem dX3_difference_32 : decode cX3_difference 32 = .ok (.iconst 0, 1) := by decide +kernel
theorem dX3_difference_33 : decode cX3_difference 33 = .ok (.iload 4, 2) := by decide +kernel
theorem dX3_difference_35 : decode cX3_difference 35 = .ok (.invokevirtual 80, 3) := by decide +kernel
theorem dX3_difference_38 : decode cX3_difference 38 = .ok (.aload_n 0, 1) := by decide +kernel
theorem dX3_difference_39 : decode cX3_difference 39 = .ok (.iconst 1, 1) := by decide +kernel
theorem dX3_difference_40 : decode cX3_difference 40 = .ok (.iload 5, 2) := by decide +kernel
theorem dX3_difference_42 : decode cX3_difference 42 = .ok (.invokevirtual 80, 3) := by decide +kernel
theorem dX3_difference_45 : decode cX3_difference 45 = .ok (.isub, 1) := by decide +kernel
theorem dX3_difference_46 : decode cX3_difference 46 = .ok (.istore 6, 2) := by decide +kernel
theorem dX3_difference_48 : decode cX3_difference 48 = .ok (.iload_n 3, 1) := by decide +kernel
theorem dX3_difference_49 : decode cX3_difference 49 = .ok (.iload 6, 2) := by decide +kernel
theorem dX3_difference_51 : decode cX3_difference 51 = .ok (.iload 6, 2) := by decide +kernel
theorem dX3_difference_53 : decode cX3_difference 53 = .ok (.imul, 1) := by decide +kernel
theorem dX3_difference_54 : decode cX3_difference 54 = .ok (.iadd, 1) := by decide +kernel
theorem dX3_difference_55 : decode cX3_difference 55 = .ok (.istore_n 3, 1) := by decide +kernel
theorem dX3_difference_56 : decode cX3_difference 56 = .ok (.iinc 4 1, 3) := by decide +kernel
theorem dX3_difference_59 : decode cX3_difference 59 = .ok (.goto (-54), 3) := by decide +kernel
theorem dX3_difference_62 : decode cX3_difference 62 = .ok (.iload_n 3, 1) := by decide +kernel
theorem dX3_difference_63 : decode cX3_difference 63 = .ok (.ireturn, 1) := by decide +kernel
theorem dX3_hangingTogether_0 : decode cX3_hangingTogether 0 = .ok (.iload_n 1, 1) := by decide +kernel
theorem dX3_hangingTogether_1 : decode cX3_hangingTogether 1 = .ok (.istore_n 3, 1) := by decide +kernel
theorem dX3_hangingTogether_2 : decode cX3_hangingTogether 2 = .ok (.iconst 0, 1) := by decide +kernel
theorem dX3_hangingTogether_3 : decode cX3_hangingTogether 3 = .ok (.istore 4, 2) := by decide +kernel
theorem dX3_hangingTogether_5 : decode cX3_hangingTogether 5 = .ok (.iconst 0, 1) := by decide +kernel
theorem dX3_hangingTogether_6 : decode cX3_hangingTogether 6 = .ok (.istore 5, 2) := by decide +kernel
theorem dX3_hangingTogether_8 : decode cX3_hangingTogether 8 = .ok (.iload 5, 2) := by decide +kernel
theorem dX3_hangingTogether_10 : decode cX3_hangingTogether 10 = .ok (.bipush 25, 2) := by decide +kernel
theorem dX3_hangingTogether_12 : decode cX3_hangingTogether 12 = .ok (.if_icmp .ge 26, 3) := by decide +kernel
theorem dX3_hangingTogether_15 : decode cX3_hangingTogether 15 = .ok (.iload_n 3, 1) := by decide +kernel
theorem dX3_hangingTogether_16 : decode cX3_hangingTogether 16 = .ok (.iload 4, 2) := by decide +kernel
theorem dX3_hangingTogether_18 : decode cX3_hangingTogether 18 = .ok (.if_icmp .eq 20, 3) := by decide +kernel
theorem dX3_hangingTogether_21 : decode cX3_hangingTogether 21 = .ok (.iload_n 3, 1) := by decide +kernel
theorem dX3_hangingTogether_22 : decode cX3_hangingTogether 22 = .ok (.istore 4, 2) := by decide +kernel
theorem dX3_hangingTogether_24 : decode cX3_hangingTogether 24 = .ok (.iload_n 2, 1) := by decide +kernel
theorem dX3_hangingTogether_25 : decode cX3_hangingTogether 25 = .ok (.aload_n 0, 1) := by decide +kernel
theorem dX3_hangingTogether_26 : decode cX3_hangingTogether 26 = .ok (.iload_n 3, 1) := by decide +kernel
theorem dX3_hangingTogether_27 : decode cX3_hangingTogether 27 = .ok (.invokevirtual 96, 3) := by decide +kernel
theorem dX3_hangingTogether_30 : decode cX3_hangingTogether 30 = .ok (.iand, 1) := by decide +kernel
theorem dX3_hangingTogether_31 : decode cX3_hangingTogether 31 = .ok (.istore_n 3, 1) := by decide +kernel
theorem dX3_hangingTogether_32 : decode cX3_hangingTogether 32 = .ok (.iinc 5 1, 3) := by decide +kernel
theorem dX3_hangingTogether_35 : decode cX3_hangingTogether 35 = .ok (.goto (-27), 3) := by decide +kernel
theorem dX3_hangingTogether_38 : decode cX3_hangingTogether 38 = .ok (.iload_n 3, 1) := by decide +kernel
theorem dX3_hangingTogether_39 : decode cX3_hangingTogether 39 = .ok (.ireturn, 1) := by decide +kernel
theorem dX3_withNeighbours_0 : decode cX3_withNeighbours 0 = .ok (.iconst 0, 1) := by decide +kernel
theorem dX3_withNeighbours_1 : decode cX3_withNeighbours 1 = .ok (.istore_n 2, 1) := by decide +kernel
theorem dX3_withNeighbours_2 : decode cX3_withNeighbours 2 = .ok (.iconst 0, 1) := by decide +kernel
theorem dX3_withNeighbours_3 : decode cX3_withNeighbours 3 = .ok (.istore_n 3, 1) := by decide +kernel
theorem dX3_withNeighbours_4 : decode cX3_withNeighbours 4 = .ok (.iload_n 3, 1) := by decide +kernel
theorem dX3_withNeighbours_5 : decode cX3_withNeighbours 5 = .ok (.aload_n 0, 1) := by decide +kernel
theorem dX3_withNeighbours_6 : decode cX3_withNeighbours 6 = .ok (.getfield 25, 3) := by decide +kernel
theorem dX3_withNeighbours_9 : decode cX3_withNeighbours 9 = .ok (.if_icmp .ge 20, 3) := by decide +kernel
theorem dX3_withNeighbours_12 : decode cX3_withNeighbours 12 = .ok (.iload_n 2, 1) := by decide +kernel
theorem dX3_withNeighbours_13 : decode cX3_withNeighbours 13 = .ok (.iconst 1, 1) := by decide +kernel
theorem dX3_withNeighbours_14 : decode cX3_withNeighbours 14 = .ok (.iload_n 3, 1) := by decide +kernel
theorem dX3_withNeighbours_15 : decode cX3_withNeighbours 15 = .ok (.aload_n 0, 1) := by decide +kernel
theorem dX3_withNeighbours_16 : decode cX3_withNeighbours 16 = .ok (.getfield 21, 3) := by decide +kernel
theorem dX3_withNeighbours_19 : decode cX3_withNeighbours 19 = .ok (.imul, 1) := by decide +kernel
theorem dX3_withNeighbours_20 : decode cX3_withNeighbours 20 = .ok (.ishl, 1) := by decide +kernel
theorem dX3_withNeighbours_21 : decode cX3_withNeighbours 21 = .ok (.ior, 1) := by decide +kernel
theorem dX3_withNeighbours_22 : decode cX3_withNeighbours 22 = .ok (.istore_n 2, 1) := by decide +kernel
theorem dX3_withNeighbours_23 : decode cX3_withNeighbours 23 = .ok (.iinc 3 1, 3) := by decide +kernel
theorem dX3_withNeighbours_26 : decode cX3_withNeighbours 26 = .ok (.goto (-22), 3) := by decide +kernel
theorem dX3_withNeighbours_29 : decode cX3_withNeighbours 29 = .ok (.iload_n 2, 1) := by decide +kernel
theorem dX3_withNeighbours_30 : decode cX3_withNeighbours 30 = .ok (.aload_n 0, 1) := by decide +kernel
theorem dX3_withNeighbours_31 : decode cX3_withNeighbours 31 = .ok (.getfield 21, 3) := by decide +kernel
theorem dX3_withNeighbours_34 : decode cX3_withNeighbours 34 = .ok (.iconst 1, 1) := by decide +kernel
theorem dX3_withNeighbours_35 : decode cX3_withNeighbours 35 = .ok (.isub, 1) := by decide +kernel
theorem dX3_withNeighbours_36 : decode cX3_withNeighbours 36 = .ok (.ishl, 1) := by decide +kernel
theorem dX3_withNeighbours_37 : decode cX3_withNeighbours 37 = .ok (.istore_n 3, 1) := by decide +kernel
theorem dX3_withNeighbours_38 : decode cX3_withNeighbours 38 = .ok (.iload_n 1, 1) := by decide +kernel
theorem dX3_withNeighbours_39 : decode cX3_withNeighbours 39 = .ok (.iload_n 1, 1) := by decide +kernel
theorem dX3_withNeighbours_40 : decode cX3_withNeighbours 40 = .ok (.iload_n 3, 1) := by decide +kernel
theorem dX3_withNeighbours_41 : decode cX3_withNeighbours 41 = .ok (.iconst (-1), 1) := by decide +kernel
theorem dX3_withNeighbours_42 : decode cX3_withNeighbours 42 = .ok (.ixor, 1) := by decide +kernel
theorem dX3_withNeighbours_43 : decode cX3_withNeighbours 43 = .ok (.iand, 1) := by decide +kernel
theorem dX3_withNeighbours_44 : decode cX3_withNeighbours 44 = .ok (.iconst 1, 1) := by decide +kernel
theorem dX3_withNeighbours_45 : decode cX3_withNeighbours 45 = .ok (.ishl, 1) := by decide +kernel
theorem dX3_withNeighbours_46 : decode cX3_withNeighbours 46 = .ok (.ior, 1) := by decide +kernel
theorem dX3_withNeighbours_47 : decode cX3_withNeighbours 47 = .ok (.iload_n 1, 1) := by decide +kernel
theorem dX3_withNeighbours_48 : decode cX3_withNeighbours 48 = .ok (.iload_n 2, 1) := by decide +kernel
theorem dX3_withNeighbours_49 : decode cX3_withNeighbours 49 = .ok (.iconst (-1), 1) := by decide +kernel
theorem dX3_withNeighbours_50 : decode cX3_withNeighbours 50 = .ok (.ixor, 1) := by decide +kernel
theorem dX3_withNeighbours_51 : decode cX3_withNeighbours 51 = .ok (.iand, 1) := by decide +kernel
theorem dX3_withNeighbours_52 : decode cX3_withNeighbours 52 = .ok (.iconst 1, 1) := by decide +kernel
theorem dX3_withNeighbours_53 : decode cX3_withNeighbours 53 = .ok (.iushr, 1) := by decide +kernel
theorem dX3_withNeighbours_54 : decode cX3_withNeighbours 54 = .ok (.ior, 1) := by decide +kernel
theorem dX3_withNeighbours_55 : decode cX3_withNeighbours 55 = .ok (.istore 4, 2) := by decide +kernel
theorem dX3_withNeighbours_57 : decode cX3_withNeighbours 57 = .ok (.iload 4, 2) := by decide +kernel
theorem dX3_withNeighbours_59 : decode cX3_withNeighbours 59 = .ok (.iload 4, 2) := by decide +kernel
theorem dX3_withNeighbours_61 : decode cX3_withNeighbours 61 = .ok (.aload_n 0, 1) := by decide +kernel
theorem dX3_withNeighbours_62 : decode cX3_withNeighbours 62 = .ok (.getfield 21, 3) := by decide +kernel
theorem dX3_withNeighbours_65 : decode cX3_withNeighbours 65 = .ok (.ishl, 1) := by decide +kernel
theorem dX3_withNeighbours_66 : decode cX3_withNeighbours 66 = .ok (.ior, 1) := by decide +kernel
theorem dX3_withNeighbours_67 : decode cX3_withNeighbours 67 = .ok (.iload 4, 2) := by decide +kernel
theorem dX3_withNeighbours_69 : decode cX3_withNeighbours 69 = .ok (.aload_n 0, 1) := by decide +kernel
theorem dX3_withNeighbours_70 : decode cX3_withNeighbours 70 = .ok (.getfield 21, 3) := by decide +kernel
theorem dX3_withNeighbours_73 : decode cX3_withNeighbours 73 = .ok (.iushr, 1) := by decide +kernel
theorem dX3_withNeighbours_74 : decode cX3_withNeighbours 74 = .ok (.ior, 1) := by decide +kernel
theorem dX3_withNeighbours_75 : decode cX3_withNeighbours 75 = .ok (.ireturn, 1) := by decide +kernel
theorem dX4_init_0 : decode cX4_init 0 = .ok (.aload_n 0, 1) := by decide +kernel
theorem dX4_init_1 : decode cX4_init 1 = .ok (.invokespecial 3, 3) := by decide +kernel
theorem dX4_init_4 : decode cX4_init 4 = .ok (.aload_n 0, 1) := by decide +kernel
theorem dX4_init_5 : decode cX4_init 5 = .ok (.bipush 56, 2) := by decide +kernel
theorem dX4_init_7 : decode cX4_init 7 = .ok (.newarray .int, 2) := by decide +kernel
theorem dX4_init_9 : decode cX4_init 9 = .ok (.putfield 9, 3) := by decide +kernel
theorem dX4_init_12 : decode cX4_init 12 = .ok (.aload_n 0, 1) := by decide +kernel
theorem dX4_init_13 : decode cX4_init 13 = .ok (.iconst 0, 1) := by decide +kernel
theorem dX4_init_14 : decode cX4_init 14 = .ok (.putfield 15, 3) := by decide +kernel
theorem dX4_init_17 : decode cX4_init 17 = .ok (.return_, 1) := by decide +kernel
theorem dX4_size_0 : decode cX4_size 0 = .ok (.aload_n 0, 1) := by decide +kernel
theorem dX4_size_1 : decode cX4_size 1 = .ok (.getfield 15, 3) := by decide +kernel
theorem dX4_size_4 : decode cX4_size 4 = .ok (.ireturn, 1) := by decide +kernel
theorem dX4_isFull_0 : decode cX4_isFull 0 = .ok (.aload_n 0, 1) := by decide +kernel
theorem dX4_isFull_1 : decode cX4_isFull 1 = .ok (.getfield 15, 3) := by decide +kernel
theorem dX4_isFull_4 : decode cX4_isFull 4 = .ok (.aload_n 0, 1) := by decide +kernel
theorem dX4_isFull_5 : decode cX4_isFull 5 = .ok (.getfield 9, 3) := by decide +kernel
theorem dX4_isFull_8 : decode cX4_isFull 8 = .ok (.arraylength, 1) := by decide +kernel
theorem dX4_isFull_9 : decode cX4_isFull 9 = .ok (.if_icmp .lt 7, 3) := by decide +kernel
theorem dX4_isFull_12 : decode cX4_isFull 12 = .ok (.iconst 1, 1) := by decide +kernel
theorem dX4_isFull_13 : decode cX4_isFull 13 = .ok (.goto 4, 3) := by decide +kernel
theorem dX4_isFull_16 : decode cX4_isFull 16 = .ok (.iconst 0, 1) := by decide +kernel
theorem dX4_isFull_17 : decode cX4_isFull 17 = .ok (.ireturn, 1) := by decide +kernel
theorem dX4_append_0 : decode cX4_append 0 = .ok (.aload_n 0, 1) := by decide +kernel
theorem dX4_append_1 : decode cX4_append 1 = .ok (.invokevirtual 19, 3) := by decide +kernel
theorem dX4_append_4 : decode cX4_append 4 = .ok (.ifCond .ne 23, 3) := by decide +kernel
theorem dX4_append_7 : decode cX4_append 7 = .ok (.aload_n 0, 1) := by decide +kernel
theorem dX4_append_8 : decode cX4_append 8 = .ok (.getfield 9, 3) := by decide +kernel
theorem dX4_append_11 : decode cX4_append 11 = .ok (.aload_n 0, 1) := by decide +kernel
theorem dX4_append_12 : decode cX4_append 12 = .ok (.getfield 15, 3) := by decide +kernel
theorem dX4_append_15 : decode cX4_append 15 = .ok (.iload_n 1, 1) := by decide +kernel
theorem dX4_append_16 : decode cX4_append 16 = .ok (.iastore, 1) := by decide +kernel
theorem dX4_append_17 : decode cX4_append 17 = .ok (.aload_n 0, 1) := by decide +kernel
theorem dX4_append_18 : decode cX4_append 18 = .ok (.dup, 1) := by decide +kernel
theorem dX4_append_19 : decode cX4_append 19 = .ok (.getfield 15, 3) := by decide +kernel
theorem dX4_append_22 : decode cX4_append 22 = .ok (.iconst 1, 1) := by decide +kernel
theorem dX4_append_23 : decode cX4_append 23 = .ok (.iadd, 1) := by decide +kernel
theorem dX4_append_24 : decode cX4_append 24 = .ok (.putfield 15, 3) := by decide +kernel
theorem dX4_append_27 : decode cX4_append 27 = .ok (.aload_n 0, 1) := by decide +kernel
theorem dX4_append_28 : decode cX4_append 28 = .ok (.getfield 15, 3) := by decide +kernel
theorem dX4_append_31 : decode cX4_append 31 = .ok (.ireturn, 1) := by decide +kernel
theorem dX4_clear_0 : decode cX4_clear 0 = .ok (.aload_n 0, 1) := by decide +kernel
theorem dX4_clear_1 : decode cX4_clear 1 = .ok (.getfield 15, 3) := by decide +kernel
theorem dX4_clear_4 : decode cX4_clear 4 = .ok (.istore_n 1, 1) := by decide +kernel
theorem dX4_clear_5 : decode cX4_clear 5 = .ok (.aload_n 0, 1) := by decide +kernel
theorem dX4_clear_6 : decode cX4_clear 6 = .ok (.iconst 0, 1) := by decide +kernel
theorem dX4_clear_7 : decode cX4_clear 7 = .ok (.putfield 15, 3) := by decide +kernel
theorem dX4_clear_10 : decode cX4_clear 10 = .ok (.iload_n 1, 1) := by decide +kernel
theorem dX4_clear_11 : decode cX4_clear 11 = .ok (.ireturn, 1) := by decide +kernel
theorem dX4_firstFault_0 : decode cX4_firstFault 0 = .ok (.iconst 0, 1) := by decide +kernel
theorem dX4_firstFault_1 : decode cX4_firstFault 1 = .ok (.istore_n 1, 1) := by decide +kernel
theorem dX4_firstFault_2 : decode cX4_firstFault 2 = .ok (.iload_n 1, 1) := by decide +kernel
theorem dX4_firstFault_3 : decode cX4_firstFault 3 = .ok (.aload_n 0, 1) := by decide +kernel
theorem dX4_firstFault_4 : decode cX4_firstFault 4 = .ok (.getfield 15, 3) := by decide +kernel
theorem dX4_firstFault_7 : decode cX4_firstFault 7 = .ok (.if_icmp .ge 19, 3) := by decide +kernel
theorem dX4_firstFault_10 : decode cX4_firstFault 10 = .ok (.aload_n 0, 1) := by decide +kernel
theorem dX4_firstFault_11 : decode cX4_firstFault 11 = .ok (.iload_n 1, 1) := by decide +kernel
theorem dX4_firstFault_12 : decode cX4_firstFault 12 = .ok (.invokevirtual 23, 3) := by decide +kernel
theorem dX4_firstFault_15 : decode cX4_firstFault 15 = .ok (.ifCond .ne 5, 3) := by decide +kernel
theorem dX4_firstFault_18 : decode cX4_firstFault 18 = .ok (.iload_n 1, 1) := by decide +kernel
theorem dX4_firstFault_19 : decode cX4_firstFault 19 = .ok (.ireturn, 1) := by decide +kernel
theorem dX4_firstFault_20 : decode cX4_firstFault 20 = .ok (.iinc 1 1, 3) := by decide +kernel
theorem dX4_firstFault_23 : decode cX4_firstFault 23 = .ok (.goto (-21), 3) := by decide +kernel
theorem dX4_firstFault_26 : decode cX4_firstFault 26 = .ok (.aload_n 0, 1) := by decide +kernel
theorem dX4_firstFault_27 : decode cX4_firstFault 27 = .ok (.getfield 15, 3) := by decide +kernel
theorem dX4_firstFault_30 : decode cX4_firstFault 30 = .ok (.iconst 2, 1) := by decide +kernel
theorem dX4_firstFault_31 : decode cX4_firstFault 31 = .ok (.if_icmp .le 22, 3) := by decide +kernel
theorem dX4_firstFault_34 : decode cX4_firstFault 34 = .ok (.aload_n 0, 1) := by decide +kernel
theorem dX4_firstFault_35 : decode cX4_firstFault 35 = .ok (.getfield 15, 3) := by decide +kernel
theorem dX4_firstFault_38 : decode cX4_firstFault 38 = .ok (.iconst 4, 1) := by decide +kernel
theorem dX4_firstFault_39 : decode cX4_firstFault 39 = .ok (.iconst 2, 1) := by decide +kernel
theorem dX4_firstFault_40 : decode cX4_firstFault 40 = .ok (.aload_n 0, 1) := by decide +kernel
theorem dX4_firstFault_41 : decode cX4_firstFault 41 = .ok (.invokevirtual 27, 3) := by decide +kernel
theorem dX4_firstFault_44 : decode cX4_firstFault 44 = .ok (.imul, 1) := by decide +kernel
theorem dX4_firstFault_45 : decode cX4_firstFault 45 = .ok (.iadd, 1) := by decide +kernel
theorem dX4_firstFault_46 : decode cX4_firstFault 46 = .ok (.if_icmp .ne 7, 3) := by decide +kernel
theorem dX4_firstFault_49 : decode cX4_firstFault 49 = .ok (.iconst 1, 1) := by decide +kernel
theorem dX4_firstFault_50 : decode cX4_firstFault 50 = .ok (.goto 4, 3) := by decide +kernel
theorem dX4_firstFault_53 : decode cX4_firstFault 53 = .ok (.iconst 0, 1) := by decide +kernel
theorem dX4_firstFault_54 : decode cX4_firstFault 54 = .ok (.istore_n 1, 1) := by decide +kernel
theorem dX4_firstFault_55 : decode cX4_firstFault 55 = .ok (.iload_n 1, 1) := by decide +kernel
theorem dX4_firstFault_56 : decode cX4_firstFault 56 = .ok (.ifCond .eq 8, 3) := by decide +kernel
theorem dX4_firstFault_59 : decode cX4_firstFault 59 = .ok (.bipush (-9), 2) := by decide +kernel
theorem dX4_firstFault_61 : decode cX4_firstFault 61 = .ok (.goto 7, 3) := by decide +kernel
theorem dX4_firstFault_64 : decode cX4_firstFault 64 = .ok (.aload_n 0, 1) := by decide +kernel
theorem dX4_firstFault_65 : decode cX4_firstFault 65 = .ok (.getfield 15, 3) := by decide +kernel
theorem dX4_firstFault_68 : decode cX4_firstFault 68 = .ok (.ireturn, 1) := by decide +kernel
theorem dX4_fits_0 : decode cX4_fits 0 = .ok (.aload_n 0, 1) := by decide +kernel
theorem dX4_fits_1 : decode cX4_fits 1 = .ok (.iload_n 1, 1) := by decide +kernel
theorem dX4_fits_2 : decode cX4_fits 2 = .ok (.invokevirtual 31, 3) := by decide +kernel
theorem dX4_fits_5 : decode cX4_fits 5 = .ok (.istore_n 2, 1) := by decide +kernel
theorem dX4_fits_6 : decode cX4_fits 6 = .ok (.iload_n 1, 1) := by decide +kernel
theorem dX4_fits_7 : decode cX4_fits 7 = .ok (.ifCond .ne 15, 3) := by decide +kernel
theorem dX4_fits_10 : decode cX4_fits 10 = .ok (.iload_n 2, 1) := by decide +kernel
theorem dX4_fits_11 : decode cX4_fits 11 = .ok (.bipush 76, 2) := by decide +kernel
theorem dX4_fits_13 : decode cX4_fits 13 = .ok (.if_icmp .ne 7, 3) := by decide +kernel
theorem dX4_fits_16 : decode cX4_fits 16 = .ok (.iconst 1, 1) := by decide +kernel
theorem dX4_fits_17 : decode cX4_fits 17 = .ok (.goto 4, 3) := by decide +kernel
theorem dX4_fits_20 : decode cX4_fits 20 = .ok (.iconst 0, 1) := by decide +kernel
theorem dX4_fits_21 : decode cX4_fits 21 = .ok (.ireturn, 1) := by decide +kernel
theorem dX4_fits_22 : decode cX4_fits 22 = .ok (.iload_n 1, 1) := by decide +kernel
theorem dX4_fits_23 : decode cX4_fits 23 = .ok (.iconst 2, 1) := by decide +kernel
theorem dX4_fits_24 : decode cX4_fits 24 = .ok (.if_icmp .gt 21, 3) := by decide +kernel
theorem dX4_fits_27 : decode cX4_fits 27 = .ok (.iload_n 2, 1) := by decide +kernel
theorem dX4_fits_28 : decode cX4_fits 28 = .ok (.bipush 49, 2) := by decide +kernel
theorem dX4_fits_30 : decode cX4_fits 30 = .ok (.if_icmp .lt 13, 3) := by decide +kernel
theorem dX4_fits_33 : decode cX4_fits 33 = .ok (.iload_n 2, 1) := by decide +kernel
theorem dX4_fits_34 : decode cX4_fits 34 = .ok (.bipush 53, 2) := by decide +kernel
theorem dX4_fits_36 : decode cX4_fits 36 = .ok (.if_icmp .gt 7, 3) := by decide +kernel
theorem dX4_fits_39 : decode cX4_fits 39 = .ok (.iconst 1, 1) := by decide +kernel
theorem dX4_fits_40 : decode cX4_fits 40 = .ok (.goto 4, 3) := by decide +kernel
theorem dX4_fits_43 : decode cX4_fits 43 = .ok (.iconst 0, 1) := by decide +kernel
theorem dX4_fits_44 : decode cX4_fits 44 = .ok (.ireturn, 1) := by decide +kernel
theorem dX4_fits_45 : decode cX4_fits 45 = .ok (.aload_n 0, 1) := by decide +kernel
theorem dX4_fits_46 : decode cX4_fits 46 = .ok (.invokevirtual 27, 3) := by decide +kernel
theorem dX4_fits_49 : decode cX4_fits 49 = .ok (.istore_n 3, 1) := by decide +kernel
theorem dX4_fits_50 : decode cX4_fits 50 = .ok (.iload_n 1, 1) := by decide +kernel
theorem dX4_fits_51 : decode cX4_fits 51 = .ok (.iconst 3, 1) := by decide +kernel
theorem dX4_fits_52 : decode cX4_fits 52 = .ok (.iload_n 3, 1) := by decide +kernel
theorem dX4_fits_53 : decode cX4_fits 53 = .ok (.iadd, 1) := by decide +kernel
theorem dX4_fits_54 : decode cX4_fits 54 = .ok (.if_icmp .ne 15, 3) := by decide +kernel
theorem dX4_fits_57 : decode cX4_fits 57 = .ok (.iload_n 2, 1) := by decide +kernel
theorem dX4_fits_58 : decode cX4_fits 58 = .ok (.bipush 66, 2) := by decide +kernel
theorem dX4_fits_60 : decode cX4_fits 60 = .ok (.if_icmp .ne 7, 3) := by decide +kernel
theorem dX4_fits_63 : decode cX4_fits 63 = .ok (.iconst 1, 1) := by decide +kernel
theorem dX4_fits_64 : decode cX4_fits 64 = .ok (.goto 4, 3) := by decide +kernel
theorem dX4_fits_67 : decode cX4_fits 67 = .ok (.iconst 0, 1) := by decide +kernel
theorem dX4_fits_68 : decode cX4_fits 68 = .ok (.ireturn, 1) := by decide +kernel
theorem dX4_fits_69 : decode cX4_fits 69 = .ok (.iload_n 1, 1) := by decide +kernel
theorem dX4_fits_70 : decode cX4_fits 70 = .ok (.iconst 4, 1) := by decide +kernel
theorem dX4_fits_71 : decode cX4_fits 71 = .ok (.iconst 2, 1) := by decide +kernel
theorem dX4_fits_72 : decode cX4_fits 72 = .ok (.iload_n 3, 1) := by decide +kernel
theorem dX4_fits_73 : decode cX4_fits 73 = .ok (.imul, 1) := by decide +kernel
theorem dX4_fits_74 : decode cX4_fits 74 = .ok (.iadd, 1) := by decide +kernel
theorem dX4_fits_75 : decode cX4_fits 75 = .ok (.if_icmp .ge 19, 3) := by decide +kernel
theorem dX4_fits_78 : decode cX4_fits 78 = .ok (.iload_n 2, 1) := by decide +kernel
theorem dX4_fits_79 : decode cX4_fits 79 = .ok (.bipush 48, 2) := by decide +kernel
theorem dX4_fits_81 : decode cX4_fits 81 = .ok (.if_icmp .lt 13, 3) := by decide +kernel
theorem dX4_fits_84 : decode cX4_fits 84 = .ok (.iload_n 2, 1) := by decide +kernel
theorem dX4_fits_85 : decode cX4_fits 85 = .ok (.bipush 57, 2) := by decide +kernel
theorem dX4_fits_87 : decode cX4_fits 87 = .ok (.if_icmp .gt 7, 3) := by decide +kernel
theorem dX4_fits_90 : decode cX4_fits 90 = .ok (.iconst 1, 1) := by decide +kernel
theorem dX4_fits_91 : decode cX4_fits 91 = .ok (.goto 4, 3) := by decide +kernel
theorem dX4_fits_94 : decode cX4_fits 94 = .ok (.iconst 0, 1) := by decide +kernel
theorem dX4_fits_95 : decode cX4_fits 95 = .ok (.ireturn, 1) := by decide +kernel
theorem dX4_letterAt_0 : decode cX4_letterAt 0 = .ok (.iload_n 1, 1) := by decide +kernel
theorem dX4_letterAt_1 : decode cX4_letterAt 1 = .ok (.ifCond .lt 20, 3) := by decide +kernel
theorem dX4_letterAt_4 : decode cX4_letterAt 4 = .ok (.iload_n 1, 1) := by decide +kernel
theorem dX4_letterAt_5 : decode cX4_letterAt 5 = .ok (.aload_n 0, 1) := by decide +kernel
theorem dX4_letterAt_6 : decode cX4_letterAt 6 = .ok (.getfield 15, 3) := by decide +kernel
theorem dX4_letterAt_9 : decode cX4_letterAt 9 = .ok (.if_icmp .ge 12, 3) := by decide +kernel
theorem dX4_letterAt_12 : decode cX4_letterAt 12 = .ok (.aload_n 0, 1) := by decide +kernel
theorem dX4_letterAt_13 : decode cX4_letterAt 13 = .ok (.getfield 9, 3) := by decide +kernel
theorem dX4_letterAt_16 : decode cX4_letterAt 16 = .ok (.iload_n 1, 1) := by decide +kernel
theorem dX4_letterAt_17 : decode cX4_letterAt 17 = .ok (.iaload, 1) := by decide +kernel
theorem dX4_letterAt_18 : decode cX4_letterAt 18 = .ok (.goto 4, 3) := by decide +kernel
theorem dX4_letterAt_21 : decode cX4_letterAt 21 = .ok (.iconst 0, 1) := by decide +kernel
theorem dX4_letterAt_22 : decode cX4_letterAt 22 = .ok (.ireturn, 1) := by decide +kernel
theorem dX4_figureAt_0 : decode cX4_figureAt 0 = .ok (.iconst 0, 1) := by decide +kernel
theorem dX4_figureAt_1 : decode cX4_figureAt 1 = .ok (.aload_n 0, 1) := by decide +kernel
theorem dX4_figureAt_2 : decode cX4_figureAt 2 = .ok (.iload_n 1, 1) := by decide +kernel
theorem dX4_figureAt_3 : decode cX4_figureAt 3 = .ok (.invokevirtual 31, 3) := by decide +kernel
theorem dX4_figureAt_6 : decode cX4_figureAt 6 = .ok (.bipush 48, 2) := by decide +kernel
theorem dX4_figureAt_8 : decode cX4_figureAt 8 = .ok (.isub, 1) := by decide +kernel
theorem dX4_figureAt_9 : decode cX4_figureAt 9 = .ok (.bipush 9, 2) := by decide +kernel
theorem dX4_figureAt_11 : decode cX4_figureAt 11 = .ok (.invokestatic 35, 3) := by decide +kernel
theorem dX4_figureAt_14 : decode cX4_figureAt 14 = .ok (.invokestatic 41, 3) := by decide +kernel
theorem dX4_figureAt_17 : decode cX4_figureAt 17 = .ok (.ireturn, 1) := by decide +kernel
theorem dX4_dotsTold_0 : decode cX4_dotsTold 0 = .ok (.aload_n 0, 1) := by decide +kernel
theorem dX4_dotsTold_1 : decode cX4_dotsTold 1 = .ok (.iconst 1, 1) := by decide +kernel
theorem dX4_dotsTold_2 : decode cX4_dotsTold 2 = .ok (.invokevirtual 44, 3) := by decide +kernel
theorem dX4_dotsTold_5 : decode cX4_dotsTold 5 = .ok (.aload_n 0, 1) := by decide +kernel
theorem dX4_dotsTold_6 : decode cX4_dotsTold 6 = .ok (.iconst 2, 1) := by decide +kernel
theorem dX4_dotsTold_7 : decode cX4_dotsTold 7 = .ok (.invokevirtual 44, 3) := by decide +kernel
theorem dX4_dotsTold_10 : decode cX4_dotsTold 10 = .ok (.imul, 1) := by decide +kernel
theorem dX4_dotsTold_11 : decode cX4_dotsTold 11 = .ok (.ireturn, 1) := by decide +kernel
theorem dJ6_bitCount_0f7a4_0 : decode cJ6_bitCount_0f7a4 0 = .ok (.iload_n 0, 1) := by decide +kernel
theorem dJ6_bitCount_0f7a4_1 : decode cJ6_bitCount_0f7a4 1 = .ok (.iload_n 0, 1) := by decide +kernel
theorem dJ6_bitCount_0f7a4_2 : decode cJ6_bitCount_0f7a4 2 = .ok (.iconst 1, 1) := by decide +kernel
theorem dJ6_bitCount_0f7a4_3 : decode cJ6_bitCount_0f7a4 3 = .ok (.iushr, 1) := by decide +kernel
theorem dJ6_bitCount_0f7a4_4 : decode cJ6_bitCount_0f7a4 4 = .ok (.ldc_w 265, 3) := by decide +kernel
theorem dJ6_bitCount_0f7a4_7 : decode cJ6_bitCount_0f7a4 7 = .ok (.iand, 1) := by decide +kernel
theorem dJ6_bitCount_0f7a4_8 : decode cJ6_bitCount_0f7a4 8 = .ok (.isub, 1) := by decide +kernel
theorem dJ6_bitCount_0f7a4_9 : decode cJ6_bitCount_0f7a4 9 = .ok (.istore_n 0, 1) := by decide +kernel
theorem dJ6_bitCount_0f7a4_10 : decode cJ6_bitCount_0f7a4 10 = .ok (.iload_n 0, 1) := by decide +kernel
theorem dJ6_bitCount_0f7a4_11 : decode cJ6_bitCount_0f7a4 11 = .ok (.ldc_w 266, 3) := by decide +kernel
theorem dJ6_bitCount_0f7a4_14 : decode cJ6_bitCount_0f7a4 14 = .ok (.iand, 1) := by decide +kernel
theorem dJ6_bitCount_0f7a4_15 : decode cJ6_bitCount_0f7a4 15 = .ok (.iload_n 0, 1) := by decide +kernel
theorem dJ6_bitCount_0f7a4_16 : decode cJ6_bitCount_0f7a4 16 = .ok (.iconst 2, 1) := by decide +kernel
theorem dJ6_bitCount_0f7a4_17 : decode cJ6_bitCount_0f7a4 17 = .ok (.iushr, 1) := by decide +kernel
theorem dJ6_bitCount_0f7a4_18 : decode cJ6_bitCount_0f7a4 18 = .ok (.ldc_w 266, 3) := by decide +kernel
theorem dJ6_bitCount_0f7a4_21 : decode cJ6_bitCount_0f7a4 21 = .ok (.iand, 1) := by decide +kernel
theorem dJ6_bitCount_0f7a4_22 : decode cJ6_bitCount_0f7a4 22 = .ok (.iadd, 1) := by decide +kernel
theorem dJ6_bitCount_0f7a4_23 : decode cJ6_bitCount_0f7a4 23 = .ok (.istore_n 0, 1) := by decide +kernel
theorem dJ6_bitCount_0f7a4_24 : decode cJ6_bitCount_0f7a4 24 = .ok (.iload_n 0, 1) := by decide +kernel
theorem dJ6_bitCount_0f7a4_25 : decode cJ6_bitCount_0f7a4 25 = .ok (.iload_n 0, 1) := by decide +kernel
theorem dJ6_bitCount_0f7a4_26 : decode cJ6_bitCount_0f7a4 26 = .ok (.iconst 4, 1) := by decide +kernel
theorem dJ6_bitCount_0f7a4_27 : decode cJ6_bitCount_0f7a4 27 = .ok (.iushr, 1) := by decide +kernel
theorem dJ6_bitCount_0f7a4_28 : decode cJ6_bitCount_0f7a4 28 = .ok (.iadd, 1) := by decide +kernel
theorem dJ6_bitCount_0f7a4_29 : decode cJ6_bitCount_0f7a4 29 = .ok (.ldc_w 267, 3) := by decide +kernel
theorem dJ6_bitCount_0f7a4_32 : decode cJ6_bitCount_0f7a4 32 = .ok (.iand, 1) := by decide +kernel
theorem dJ6_bitCount_0f7a4_33 : decode cJ6_bitCount_0f7a4 33 = .ok (.istore_n 0, 1) := by decide +kernel
theorem dJ6_bitCount_0f7a4_34 : decode cJ6_bitCount_0f7a4 34 = .ok (.iload_n 0, 1) := by decide +kernel
theorem dJ6_bitCount_0f7a4_35 : decode cJ6_bitCount_0f7a4 35 = .ok (.iload_n 0, 1) := by decide +kernel
theorem dJ6_bitCount_0f7a4_36 : decode cJ6_bitCount_0f7a4 36 = .ok (.bipush 8, 2) := by decide +kernel
theorem dJ6_bitCount_0f7a4_38 : decode cJ6_bitCount_0f7a4 38 = .ok (.iushr, 1) := by decide +kernel
theorem dJ6_bitCount_0f7a4_39 : decode cJ6_bitCount_0f7a4 39 = .ok (.iadd, 1) := by decide +kernel
theorem dJ6_bitCount_0f7a4_40 : decode cJ6_bitCount_0f7a4 40 = .ok (.istore_n 0, 1) := by decide +kernel
theorem dJ6_bitCount_0f7a4_41 : decode cJ6_bitCount_0f7a4 41 = .ok (.iload_n 0, 1) := by decide +kernel
theorem dJ6_bitCount_0f7a4_42 : decode cJ6_bitCount_0f7a4 42 = .ok (.iload_n 0, 1) := by decide +kernel
theorem dJ6_bitCount_0f7a4_43 : decode cJ6_bitCount_0f7a4 43 = .ok (.bipush 16, 2) := by decide +kernel
theorem dJ6_bitCount_0f7a4_45 : decode cJ6_bitCount_0f7a4 45 = .ok (.iushr, 1) := by decide +kernel
theorem dJ6_bitCount_0f7a4_46 : decode cJ6_bitCount_0f7a4 46 = .ok (.iadd, 1) := by decide +kernel
theorem dJ6_bitCount_0f7a4_47 : decode cJ6_bitCount_0f7a4 47 = .ok (.istore_n 0, 1) := by decide +kernel
theorem dJ6_bitCount_0f7a4_48 : decode cJ6_bitCount_0f7a4 48 = .ok (.iload_n 0, 1) := by decide +kernel
theorem dJ6_bitCount_0f7a4_49 : decode cJ6_bitCount_0f7a4 49 = .ok (.bipush 63, 2) := by decide +kernel
theorem dJ6_bitCount_0f7a4_51 : decode cJ6_bitCount_0f7a4 51 = .ok (.iand, 1) := by decide +kernel
theorem dJ6_bitCount_0f7a4_52 : decode cJ6_bitCount_0f7a4 52 = .ok (.ireturn, 1) := by decide +kernel
theorem dJ9_abs_0f7a4_0 : decode cJ9_abs_0f7a4 0 = .ok (.iload_n 0, 1) := by decide +kernel
theorem dJ9_abs_0f7a4_1 : decode cJ9_abs_0f7a4 1 = .ok (.ifCond .ge 8, 3) := by decide +kernel
theorem dJ9_abs_0f7a4_4 : decode cJ9_abs_0f7a4 4 = .ok (.iload_n 0, 1) := by decide +kernel
theorem dJ9_abs_0f7a4_5 : decode cJ9_abs_0f7a4 5 = .ok (.ineg, 1) := by decide +kernel
theorem dJ9_abs_0f7a4_6 : decode cJ9_abs_0f7a4 6 = .ok (.goto 4, 3) := by decide +kernel
theorem dJ9_abs_0f7a4_9 : decode cJ9_abs_0f7a4 9 = .ok (.iload_n 0, 1) := by decide +kernel
theorem dJ9_abs_0f7a4_10 : decode cJ9_abs_0f7a4 10 = .ok (.ireturn, 1) := by decide +kernel
theorem dJ9_max_7cf53_0 : decode cJ9_max_7cf53 0 = .ok (.iload_n 0, 1) := by decide +kernel
theorem dJ9_max_7cf53_1 : decode cJ9_max_7cf53 1 = .ok (.iload_n 1, 1) := by decide +kernel
theorem dJ9_max_7cf53_2 : decode cJ9_max_7cf53 2 = .ok (.if_icmp .lt 7, 3) := by decide +kernel
theorem dJ9_max_7cf53_5 : decode cJ9_max_7cf53 5 = .ok (.iload_n 0, 1) := by decide +kernel
theorem dJ9_max_7cf53_6 : decode cJ9_max_7cf53 6 = .ok (.goto 4, 3) := by decide +kernel
theorem dJ9_max_7cf53_9 : decode cJ9_max_7cf53 9 = .ok (.iload_n 1, 1) := by decide +kernel
theorem dJ9_max_7cf53_10 : decode cJ9_max_7cf53 10 = .ok (.ireturn, 1) := by decide +kernel
theorem dJ9_min_7cf53_0 : decode cJ9_min_7cf53 0 = .ok (.iload_n 0, 1) := by decide +kernel
theorem dJ9_min_7cf53_1 : decode cJ9_min_7cf53 1 = .ok (.iload_n 1, 1) := by decide +kernel
theorem dJ9_min_7cf53_2 : decode cJ9_min_7cf53 2 = .ok (.if_icmp .gt 7, 3) := by decide +kernel
theorem dJ9_min_7cf53_5 : decode cJ9_min_7cf53 5 = .ok (.iload_n 0, 1) := by decide +kernel
theorem dJ9_min_7cf53_6 : decode cJ9_min_7cf53 6 = .ok (.goto 4, 3) := by decide +kernel
theorem dJ9_min_7cf53_9 : decode cJ9_min_7cf53 9 = .ok (.iload_n 1, 1) := by decide +kernel
theorem dJ9_min_7cf53_10 : decode cJ9_min_7cf53 10 = .ok (.ireturn, 1) := by decide +kernel
