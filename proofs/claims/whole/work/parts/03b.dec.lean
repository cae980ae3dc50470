theorem dX5_init_0 : decode cX5_init 0 = .ok (.aload_n 0, 1) := by decide +kernel
theorem dX5_init_1 : decode cX5_init 1 = .ok (.invokespecial 1, 3) := by decide +kernel
theorem dX5_init_4 : decode cX5_init 4 = .ok (.aload_n 0, 1) := by decide +kernel
theorem dX5_init_5 : decode cX5_init 5 = .ok (.new 7, 3) := by decide +kernel
theorem dX5_init_8 : decode cX5_init 8 = .ok (.dup, 1) := by decide +kernel
theorem dX5_init_9 : decode cX5_init 9 = .ok (.invokespecial 9, 3) := by decide +kernel
theorem dX5_init_12 : decode cX5_init 12 = .ok (.putfield 10, 3) := by decide +kernel
theorem dX5_init_15 : decode cX5_init 15 = .ok (.aload_n 0, 1) := by decide +kernel
theorem dX5_init_16 : decode cX5_init 16 = .ok (.new 16, 3) := by decide +kernel
theorem dX5_init_19 : decode cX5_init 19 = .ok (.dup, 1) := by decide +kernel
theorem dX5_init_20 : decode cX5_init 20 = .ok (.invokespecial 18, 3) := by decide +kernel
theorem dX5_init_23 : decode cX5_init 23 = .ok (.putfield 19, 3) := by decide +kernel
theorem dX5_init_26 : decode cX5_init 26 = .ok (.aload_n 0, 1) := by decide +kernel
theorem dX5_init_27 : decode cX5_init 27 = .ok (.new 16, 3) := by decide +kernel
theorem dX5_init_30 : decode cX5_init 30 = .ok (.dup, 1) := by decide +kernel
theorem dX5_init_31 : decode cX5_init 31 = .ok (.invokespecial 18, 3) := by decide +kernel
theorem dX5_init_34 : decode cX5_init 34 = .ok (.putfield 23, 3) := by decide +kernel
theorem dX5_init_37 : decode cX5_init 37 = .ok (.aload_n 0, 1) := by decide +kernel
theorem dX5_init_38 : decode cX5_init 38 = .ok (.new 16, 3) := by decide +kernel
theorem dX5_init_41 : decode cX5_init 41 = .ok (.dup, 1) := by decide +kernel
theorem dX5_init_42 : decode cX5_init 42 = .ok (.invokespecial 18, 3) := by decide +kernel
theorem dX5_init_45 : decode cX5_init 45 = .ok (.putfield 26, 3) := by decide +kernel
theorem dX5_init_48 : decode cX5_init 48 = .ok (.aload_n 0, 1) := by decide +kernel
theorem dX5_init_49 : decode cX5_init 49 = .ok (.new 16, 3) := by decide +kernel
theorem dX5_init_52 : decode cX5_init 52 = .ok (.dup, 1) := by decide +kernel
theorem dX5_init_53 : decode cX5_init 53 = .ok (.invokespecial 18, 3) := by decide +kernel
theorem dX5_init_56 : decode cX5_init 56 = .ok (.putfield 29, 3) := by decide +kernel
theorem dX5_init_59 : decode cX5_init 59 = .ok (.aload_n 0, 1) := by decide +kernel
theorem dX5_init_60 : decode cX5_init 60 = .ok (.new 32, 3) := by decide +kernel
theorem dX5_init_63 : decode cX5_init 63 = .ok (.dup, 1) := by decide +kernel
theorem dX5_init_64 : decode cX5_init 64 = .ok (.invokespecial 34, 3) := by decide +kernel
theorem dX5_init_67 : decode cX5_init 67 = .ok (.putfield 35, 3) := by decide +kernel
theorem dX5_init_70 : decode cX5_init 70 = .ok (.aload_n 0, 1) := by decide +kernel
theorem dX5_init_71 : decode cX5_init 71 = .ok (.new 39, 3) := by decide +kernel
theorem dX5_init_74 : decode cX5_init 74 = .ok (.dup, 1) := by decide +kernel
theorem dX5_init_75 : decode cX5_init 75 = .ok (.invokespecial 41, 3) := by decide +kernel
theorem dX5_init_78 : decode cX5_init 78 = .ok (.putfield 42, 3) := by decide +kernel
theorem dX5_init_81 : decode cX5_init 81 = .ok (.aload_n 0, 1) := by decide +kernel
theorem dX5_init_82 : decode cX5_init 82 = .ok (.new 46, 3) := by decide +kernel
theorem dX5_init_85 : decode cX5_init 85 = .ok (.dup, 1) := by decide +kernel
theorem dX5_init_86 : decode cX5_init 86 = .ok (.invokespecial 48, 3) := by decide +kernel
theorem dX5_init_89 : decode cX5_init 89 = .ok (.putfield 49, 3) := by decide +kernel
theorem dX5_init_92 : decode cX5_init 92 = .ok (.aload_n 0, 1) := by decide +kernel
theorem dX5_init_93 : decode cX5_init 93 = .ok (.bipush 32, 2) := by decide +kernel
theorem dX5_init_95 : decode cX5_init 95 = .ok (.newarray .int, 2) := by decide +kernel
theorem dX5_init_97 : decode cX5_init 97 = .ok (.putfield 53, 3) := by decide +kernel
theorem dX5_init_100 : decode cX5_init 100 = .ok (.aload_n 0, 1) := by decide +kernel
theorem dX5_init_101 : decode cX5_init 101 = .ok (.iconst 0, 1) := by decide +kernel
theorem dX5_init_102 : decode cX5_init 102 = .ok (.putfield 57, 3) := by decide +kernel
theorem dX5_init_105 : decode cX5_init 105 = .ok (.aload_n 0, 1) := by decide +kernel
theorem dX5_init_106 : decode cX5_init 106 = .ok (.lconst 0, 1) := by decide +kernel
theorem dX5_init_107 : decode cX5_init 107 = .ok (.putfield 61, 3) := by decide +kernel
theorem dX5_init_110 : decode cX5_init 110 = .ok (.return_, 1) := by decide +kernel
theorem dX5_write_0 : decode cX5_write 0 = .ok (.iload_n 1, 1) := by decide +kernel
theorem dX5_write_1 : decode cX5_write 1 = .ok (.ifCond .lt 10, 3) := by decide +kernel
theorem dX5_write_4 : decode cX5_write 4 = .ok (.iload_n 1, 1) := by decide +kernel
theorem dX5_write_5 : decode cX5_write 5 = .ok (.sipush 255, 3) := by decide +kernel
theorem dX5_write_8 : decode cX5_write 8 = .ok (.if_icmp .le 6, 3) := by decide +kernel
theorem dX5_write_11 : decode cX5_write 11 = .ok (.bipush (-2), 2) := by decide +kernel
theorem dX5_write_13 : decode cX5_write 13 = .ok (.ireturn, 1) := by decide +kernel
theorem dX5_write_14 : decode cX5_write 14 = .ok (.aload_n 0, 1) := by decide +kernel
theorem dX5_write_15 : decode cX5_write 15 = .ok (.getfield 10, 3) := by decide +kernel
theorem dX5_write_18 : decode cX5_write 18 = .ok (.invokevirtual 65, 3) := by decide +kernel
theorem dX5_write_21 : decode cX5_write 21 = .ok (.ifCond .eq 6, 3) := by decide +kernel
theorem dX5_write_24 : decode cX5_write 24 = .ok (.bipush (-4), 2) := by decide +kernel
theorem dX5_write_26 : decode cX5_write 26 = .ok (.ireturn, 1) := by decide +kernel
theorem dX5_write_27 : decode cX5_write 27 = .ok (.aload_n 0, 1) := by decide +kernel
theorem dX5_write_28 : decode cX5_write 28 = .ok (.getfield 10, 3) := by decide +kernel
theorem dX5_write_31 : decode cX5_write 31 = .ok (.iload_n 1, 1) := by decide +kernel
theorem dX5_write_32 : decode cX5_write 32 = .ok (.invokevirtual 69, 3) := by decide +kernel
theorem dX5_write_35 : decode cX5_write 35 = .ok (.ireturn, 1) := by decide +kernel
theorem dX5_wipe_0 : decode cX5_wipe 0 = .ok (.aload_n 0, 1) := by decide +kernel
theorem dX5_wipe_1 : decode cX5_wipe 1 = .ok (.getfield 10, 3) := by decide +kernel
theorem dX5_wipe_4 : decode cX5_wipe 4 = .ok (.invokevirtual 73, 3) := by decide +kernel
theorem dX5_wipe_7 : decode cX5_wipe 7 = .ok (.ireturn, 1) := by decide +kernel
theorem dX5_fault_0 : decode cX5_fault 0 = .ok (.aload_n 0, 1) := by decide +kernel
theorem dX5_fault_1 : decode cX5_fault 1 = .ok (.getfield 10, 3) := by decide +kernel
theorem dX5_fault_4 : decode cX5_fault 4 = .ok (.invokevirtual 77, 3) := by decide +kernel
theorem dX5_fault_7 : decode cX5_fault 7 = .ok (.ireturn, 1) := by decide +kernel
theorem dX5_leaf_0 : decode cX5_leaf 0 = .ok (.aload_n 0, 1) := by decide +kernel
theorem dX5_leaf_1 : decode cX5_leaf 1 = .ok (.getfield 10, 3) := by decide +kernel
theorem dX5_leaf_4 : decode cX5_leaf 4 = .ok (.invokevirtual 77, 3) := by decide +kernel
theorem dX5_leaf_7 : decode cX5_leaf 7 = .ok (.bipush (-9), 2) := by decide +kernel
theorem dX5_leaf_9 : decode cX5_leaf 9 = .ok (.if_icmp .eq 6, 3) := by decide +kernel
theorem dX5_leaf_12 : decode cX5_leaf 12 = .ok (.bipush (-3), 2) := by decide +kernel
theorem dX5_leaf_14 : decode cX5_leaf 14 = .ok (.ireturn, 1) := by decide +kernel
theorem dX5_leaf_15 : decode cX5_leaf 15 = .ok (.aload_n 0, 1) := by decide +kernel
theorem dX5_leaf_16 : decode cX5_leaf 16 = .ok (.getfield 19, 3) := by decide +kernel
theorem dX5_leaf_19 : decode cX5_leaf 19 = .ok (.aload_n 0, 1) := by decide +kernel
theorem dX5_leaf_20 : decode cX5_leaf 20 = .ok (.getfield 10, 3) := by decide +kernel
theorem dX5_leaf_23 : decode cX5_leaf 23 = .ok (.invokevirtual 80, 3) := by decide +kernel
theorem dX5_leaf_26 : decode cX5_leaf 26 = .ok (.aload_n 0, 1) := by decide +kernel
theorem dX5_leaf_27 : decode cX5_leaf 27 = .ok (.getfield 42, 3) := by decide +kernel
theorem dX5_leaf_30 : decode cX5_leaf 30 = .ok (.invokevirtual 84, 3) := by decide +kernel
theorem dX5_leaf_33 : decode cX5_leaf 33 = .ok (.aload_n 0, 1) := by decide +kernel
theorem dX5_leaf_34 : decode cX5_leaf 34 = .ok (.iconst 0, 1) := by decide +kernel
theorem dX5_leaf_35 : decode cX5_leaf 35 = .ok (.putfield 57, 3) := by decide +kernel
theorem dX5_leaf_38 : decode cX5_leaf 38 = .ok (.aload_n 0, 1) := by decide +kernel
theorem dX5_leaf_39 : decode cX5_leaf 39 = .ok (.getfield 19, 3) := by decide +kernel
theorem dX5_leaf_42 : decode cX5_leaf 42 = .ok (.invokevirtual 87, 3) := by decide +kernel
theorem dX5_leaf_45 : decode cX5_leaf 45 = .ok (.ireturn, 1) := by decide +kernel
theorem dX5_about_0 : decode cX5_about 0 = .ok (.iload_n 1, 1) := by decide +kernel
theorem dX5_about_1 : decode cX5_about 1 = .ok (.tableswitch 204 0 12 #[67, 75, 83, 104, 117, 130, 138, 146, 154, 162, 180, 188, 196], 67) := by decide +kernel
theorem dX5_about_68 : decode cX5_about 68 = .ok (.aload_n 0, 1) := by decide +kernel
theorem dX5_about_69 : decode cX5_about 69 = .ok (.getfield 19, 3) := by decide +kernel
theorem dX5_about_72 : decode cX5_about 72 = .ok (.getfield 90, 3) := by decide +kernel
theorem dX5_about_75 : decode cX5_about 75 = .ok (.ireturn, 1) := by decide +kernel
theorem dX5_about_76 : decode cX5_about 76 = .ok (.aload_n 0, 1) := by decide +kernel
theorem dX5_about_77 : decode cX5_about 77 = .ok (.getfield 19, 3) := by decide +kernel
theorem dX5_about_80 : decode cX5_about 80 = .ok (.getfield 93, 3) := by decide +kernel
theorem dX5_about_83 : decode cX5_about 83 = .ok (.ireturn, 1) := by decide +kernel
theorem dX5_about_84 : decode cX5_about 84 = .ok (.aload_n 0, 1) := by decide +kernel
theorem dX5_about_85 : decode cX5_about 85 = .ok (.getfield 19, 3) := by decide +kernel
theorem dX5_about_88 : decode cX5_about 88 = .ok (.invokevirtual 87, 3) := by decide +kernel
theorem dX5_about_91 : decode cX5_about 91 = .ok (.aload_n 0, 1) := by decide +kernel
theorem dX5_about_92 : decode cX5_about 92 = .ok (.getfield 35, 3) := by decide +kernel
theorem dX5_about_95 : decode cX5_about 95 = .ok (.aload_n 0, 1) := by decide +kernel
theorem dX5_about_96 : decode cX5_about 96 = .ok (.getfield 19, 3) := by decide +kernel
theorem dX5_about_99 : decode cX5_about 99 = .ok (.iconst 0, 1) := by decide +kernel
theorem dX5_about_100 : decode cX5_about 100 = .ok (.invokevirtual 96, 3) := by decide +kernel
theorem dX5_about_103 : decode cX5_about 103 = .ok (.isub, 1) := by decide +kernel
theorem dX5_about_104 : decode cX5_about 104 = .ok (.ireturn, 1) := by decide +kernel
theorem dX5_about_105 : decode cX5_about 105 = .ok (.aload_n 0, 1) := by decide +kernel
theorem dX5_about_106 : decode cX5_about 106 = .ok (.getfield 35, 3) := by decide +kernel
theorem dX5_about_109 : decode cX5_about 109 = .ok (.aload_n 0, 1) := by decide +kernel
theorem dX5_about_110 : decode cX5_about 110 = .ok (.getfield 19, 3) := by decide +kernel
theorem dX5_about_113 : decode cX5_about 113 = .ok (.iconst 1, 1) := by decide +kernel
theorem dX5_about_114 : decode cX5_about 114 = .ok (.invokevirtual 96, 3) := by decide +kernel
theorem dX5_about_117 : decode cX5_about 117 = .ok (.ireturn, 1) := by decide +kernel
theorem dX5_about_118 : decode cX5_about 118 = .ok (.aload_n 0, 1) := by decide +kernel
theorem dX5_about_119 : decode cX5_about 119 = .ok (.getfield 35, 3) := by decide +kernel
theorem dX5_about_122 : decode cX5_about 122 = .ok (.aload_n 0, 1) := by decide +kernel
theorem dX5_about_123 : decode cX5_about 123 = .ok (.getfield 19, 3) := by decide +kernel
theorem dX5_about_126 : decode cX5_about 126 = .ok (.iconst 2, 1) := by decide +kernel
theorem dX5_about_127 : decode cX5_about 127 = .ok (.invokevirtual 96, 3) := by decide +kernel
theorem dX5_about_130 : decode cX5_about 130 = .ok (.ireturn, 1) := by decide +kernel
theorem dX5_about_131 : decode cX5_about 131 = .ok (.aload_n 0, 1) := by decide +kernel
theorem dX5_about_132 : decode cX5_about 132 = .ok (.getfield 19, 3) := by decide +kernel
theorem dX5_about_135 : decode cX5_about 135 = .ok (.invokevirtual 100, 3) := by decide +kernel
theorem dX5_about_138 : decode cX5_about 138 = .ok (.ireturn, 1) := by decide +kernel
theorem dX5_about_139 : decode cX5_about 139 = .ok (.aload_n 0, 1) := by decide +kernel
theorem dX5_about_140 : decode cX5_about 140 = .ok (.getfield 19, 3) := by decide +kernel
theorem dX5_about_143 : decode cX5_about 143 = .ok (.getfield 103, 3) := by decide +kernel
theorem dX5_about_146 : decode cX5_about 146 = .ok (.ireturn, 1) := by decide +kernel
theorem dX5_about_147 : decode cX5_about 147 = .ok (.aload_n 0, 1) := by decide +kernel
theorem dX5_about_148 : decode cX5_about 148 = .ok (.getfield 19, 3) := by decide +kernel
theorem dX5_about_151 : decode cX5_about 151 = .ok (.getfield 106, 3) := by decide +kernel
theorem dX5_about_154 : decode cX5_about 154 = .ok (.ireturn, 1) := by decide +kernel
theorem dX5_about_155 : decode cX5_about 155 = .ok (.aload_n 0, 1) := by decide +kernel
theorem dX5_about_156 : decode cX5_about 156 = .ok (.getfield 19, 3) := by decide +kernel
theorem dX5_about_159 : decode cX5_about 159 = .ok (.getfield 109, 3) := by decide +kernel
theorem dX5_about_162 : decode cX5_about 162 = .ok (.ireturn, 1) := by decide +kernel
theorem dX5_about_163 : decode cX5_about 163 = .ok (.aload_n 0, 1) := by decide +kernel
theorem dX5_about_164 : decode cX5_about 164 = .ok (.getfield 19, 3) := by decide +kernel
theorem dX5_about_167 : decode cX5_about 167 = .ok (.getfield 112, 3) := by decide +kernel
theorem dX5_about_170 : decode cX5_about 170 = .ok (.aload_n 0, 1) := by decide +kernel
theorem dX5_about_171 : decode cX5_about 171 = .ok (.getfield 19, 3) := by decide +kernel
theorem dX5_about_174 : decode cX5_about 174 = .ok (.getfield 115, 3) := by decide +kernel
theorem dX5_about_177 : decode cX5_about 177 = .ok (.invokestatic 118, 3) := by decide +kernel
theorem dX5_about_180 : decode cX5_about 180 = .ok (.ireturn, 1) := by decide +kernel
theorem dX5_about_181 : decode cX5_about 181 = .ok (.aload_n 0, 1) := by decide +kernel
theorem dX5_about_182 : decode cX5_about 182 = .ok (.getfield 42, 3) := by decide +kernel
theorem dX5_about_185 : decode cX5_about 185 = .ok (.invokevirtual 122, 3) := by decide +kernel
theorem dX5_about_188 : decode cX5_about 188 = .ok (.ireturn, 1) := by decide +kernel
theorem dX5_about_189 : decode cX5_about 189 = .ok (.aload_n 0, 1) := by decide +kernel
theorem dX5_about_190 : decode cX5_about 190 = .ok (.getfield 49, 3) := by decide +kernel
theorem dX5_about_193 : decode cX5_about 193 = .ok (.invokevirtual 125, 3) := by decide +kernel
theorem dX5_about_196 : decode cX5_about 196 = .ok (.ireturn, 1) := by decide +kernel
theorem dX5_about_197 : decode cX5_about 197 = .ok (.aload_n 0, 1) := by decide +kernel
theorem dX5_about_198 : decode cX5_about 198 = .ok (.getfield 10, 3) := by decide +kernel
theorem dX5_about_201 : decode cX5_about 201 = .ok (.invokevirtual 126, 3) := by decide +kernel
theorem dX5_about_204 : decode cX5_about 204 = .ok (.ireturn, 1) := by decide +kernel
theorem dX5_about_205 : decode cX5_about 205 = .ok (.bipush (-2), 2) := by decide +kernel
theorem dX5_about_207 : decode cX5_about 207 = .ok (.ireturn, 1) := by decide +kernel
theorem dX5_grey_0 : decode cX5_grey 0 = .ok (.iload_n 1, 1) := by decide +kernel
theorem dX5_grey_1 : decode cX5_grey 1 = .ok (.invokestatic 127, 3) := by decide +kernel
theorem dX5_grey_4 : decode cX5_grey 4 = .ok (.ifCond .eq 14, 3) := by decide +kernel
theorem dX5_grey_7 : decode cX5_grey 7 = .ok (.aload_n 0, 1) := by decide +kernel
theorem dX5_grey_8 : decode cX5_grey 8 = .ok (.getfield 19, 3) := by decide +kernel
theorem dX5_grey_11 : decode cX5_grey 11 = .ok (.iload_n 2, 1) := by decide +kernel
theorem dX5_grey_12 : decode cX5_grey 12 = .ok (.invokevirtual 131, 3) := by decide +kernel
theorem dX5_grey_15 : decode cX5_grey 15 = .ok (.ifCond .ne 5, 3) := by decide +kernel
theorem dX5_grey_18 : decode cX5_grey 18 = .ok (.iconst (-1), 1) := by decide +kernel
theorem dX5_grey_19 : decode cX5_grey 19 = .ok (.ireturn, 1) := by decide +kernel
theorem dX5_grey_20 : decode cX5_grey 20 = .ok (.aload_n 0, 1) := by decide +kernel
theorem dX5_grey_21 : decode cX5_grey 21 = .ok (.getfield 19, 3) := by decide +kernel
theorem dX5_grey_24 : decode cX5_grey 24 = .ok (.iload_n 1, 1) := by decide +kernel
theorem dX5_grey_25 : decode cX5_grey 25 = .ok (.iload_n 2, 1) := by decide +kernel
theorem dX5_grey_26 : decode cX5_grey 26 = .ok (.invokevirtual 134, 3) := by decide +kernel
theorem dX5_grey_29 : decode cX5_grey 29 = .ok (.ireturn, 1) := by decide +kernel
theorem dX5_shows_0 : decode cX5_shows 0 = .ok (.iload_n 1, 1) := by decide +kernel
theorem dX5_shows_1 : decode cX5_shows 1 = .ok (.invokestatic 137, 3) := by decide +kernel
theorem dX5_shows_4 : decode cX5_shows 4 = .ok (.ifCond .ne 6, 3) := by decide +kernel
theorem dX5_shows_7 : decode cX5_shows 7 = .ok (.bipush (-2), 2) := by decide +kernel
theorem dX5_shows_9 : decode cX5_shows 9 = .ok (.ireturn, 1) := by decide +kernel
theorem dX5_shows_10 : decode cX5_shows 10 = .ok (.aload_n 0, 1) := by decide +kernel
theorem dX5_shows_11 : decode cX5_shows 11 = .ok (.getfield 19, 3) := by decide +kernel
theorem dX5_shows_14 : decode cX5_shows 14 = .ok (.iload_n 1, 1) := by decide +kernel
theorem dX5_shows_15 : decode cX5_shows 15 = .ok (.invokevirtual 140, 3) := by decide +kernel
theorem dX5_shows_18 : decode cX5_shows 18 = .ok (.ireturn, 1) := by decide +kernel
theorem dX5_window_0 : decode cX5_window 0 = .ok (.aload_n 0, 1) := by decide +kernel
theorem dX5_window_1 : decode cX5_window 1 = .ok (.getfield 19, 3) := by decide +kernel
theorem dX5_window_4 : decode cX5_window 4 = .ok (.iload_n 1, 1) := by decide +kernel
theorem dX5_window_5 : decode cX5_window 5 = .ok (.invokevirtual 131, 3) := by decide +kernel
theorem dX5_window_8 : decode cX5_window 8 = .ok (.ifCond .ne 5, 3) := by decide +kernel
theorem dX5_window_11 : decode cX5_window 11 = .ok (.iconst (-1), 1) := by decide +kernel
theorem dX5_window_12 : decode cX5_window 12 = .ok (.ireturn, 1) := by decide +kernel
theorem dX5_window_13 : decode cX5_window 13 = .ok (.aload_n 0, 1) := by decide +kernel
theorem dX5_window_14 : decode cX5_window 14 = .ok (.getfield 35, 3) := by decide +kernel
theorem dX5_window_17 : decode cX5_window 17 = .ok (.aload_n 0, 1) := by decide +kernel
theorem dX5_window_18 : decode cX5_window 18 = .ok (.getfield 19, 3) := by decide +kernel
theorem dX5_window_21 : decode cX5_window 21 = .ok (.iload_n 1, 1) := by decide +kernel
theorem dX5_window_22 : decode cX5_window 22 = .ok (.aload_n 0, 1) := by decide +kernel
theorem dX5_window_23 : decode cX5_window 23 = .ok (.getfield 19, 3) := by decide +kernel
theorem dX5_window_26 : decode cX5_window 26 = .ok (.getfield 106, 3) := by decide +kernel
theorem dX5_window_29 : decode cX5_window 29 = .ok (.invokevirtual 143, 3) := by decide +kernel
theorem dX5_window_32 : decode cX5_window 32 = .ok (.iload_n 2, 1) := by decide +kernel
theorem dX5_window_33 : decode cX5_window 33 = .ok (.tableswitch 54 0 2 #[27, 36, 45], 27) := by decide +kernel
theorem dX5_window_60 : decode cX5_window 60 = .ok (.aload_n 0, 1) := by decide +kernel
theorem dX5_window_61 : decode cX5_window 61 = .ok (.getfield 35, 3) := by decide +kernel
theorem dX5_window_64 : decode cX5_window 64 = .ok (.iload_n 1, 1) := by decide +kernel
theorem dX5_window_65 : decode cX5_window 65 = .ok (.invokevirtual 147, 3) := by decide +kernel
theorem dX5_window_68 : decode cX5_window 68 = .ok (.ireturn, 1) := by decide +kernel
theorem dX5_window_69 : decode cX5_window 69 = .ok (.aload_n 0, 1) := by decide +kernel
theorem dX5_window_70 : decode cX5_window 70 = .ok (.getfield 35, 3) := by decide +kernel
theorem dX5_window_73 : decode cX5_window 73 = .ok (.iload_n 1, 1) := by decide +kernel
theorem dX5_window_74 : decode cX5_window 74 = .ok (.invokevirtual 150, 3) := by decide +kernel
theorem dX5_window_77 : decode cX5_window 77 = .ok (.ireturn, 1) := by decide +kernel
theorem dX5_window_78 : decode cX5_window 78 = .ok (.aload_n 0, 1) := by decide +kernel
theorem dX5_window_79 : decode cX5_window 79 = .ok (.getfield 35, 3) := by decide +kernel
theorem dX5_window_82 : decode cX5_window 82 = .ok (.iload_n 1, 1) := by decide +kernel
theorem dX5_window_83 : decode cX5_window 83 = .ok (.invokevirtual 153, 3) := by decide +kernel
theorem dX5_window_86 : decode cX5_window 86 = .ok (.ireturn, 1) := by decide +kernel
theorem dX5_window_87 : decode cX5_window 87 = .ok (.bipush (-2), 2) := by decide +kernel
theorem dX5_window_89 : decode cX5_window 89 = .ok (.ireturn, 1) := by decide +kernel
theorem dX5_spread_0 : decode cX5_spread 0 = .ok (.aload_n 0, 1) := by decide +kernel
theorem dX5_spread_1 : decode cX5_spread 1 = .ok (.getfield 19, 3) := by decide +kernel
theorem dX5_spread_4 : decode cX5_spread 4 = .ok (.iload_n 1, 1) := by decide +kernel
theorem dX5_spread_5 : decode cX5_spread 5 = .ok (.invokevirtual 131, 3) := by decide +kernel
theorem dX5_spread_8 : decode cX5_spread 8 = .ok (.ifCond .ne 5, 3) := by decide +kernel
theorem dX5_spread_11 : decode cX5_spread 11 = .ok (.iconst (-1), 1) := by decide +kernel
theorem dX5_spread_12 : decode cX5_spread 12 = .ok (.ireturn, 1) := by decide +kernel
theorem dX5_spread_13 : decode cX5_spread 13 = .ok (.aload_n 0, 1) := by decide +kernel
theorem dX5_spread_14 : decode cX5_spread 14 = .ok (.getfield 35, 3) := by decide +kernel
theorem dX5_spread_17 : decode cX5_spread 17 = .ok (.aload_n 0, 1) := by decide +kernel
theorem dX5_spread_18 : decode cX5_spread 18 = .ok (.getfield 19, 3) := by decide +kernel
theorem dX5_spread_21 : decode cX5_spread 21 = .ok (.iload_n 1, 1) := by decide +kernel
theorem dX5_spread_22 : decode cX5_spread 22 = .ok (.aload_n 0, 1) := by decide +kernel
theorem dX5_spread_23 : decode cX5_spread 23 = .ok (.getfield 19, 3) := by decide +kernel
theorem dX5_spread_26 : decode cX5_spread 26 = .ok (.getfield 106, 3) := by decide +kernel
theorem dX5_spread_29 : decode cX5_spread 29 = .ok (.invokevirtual 143, 3) := by decide +kernel
theorem dX5_spread_32 : decode cX5_spread 32 = .ok (.aload_n 0, 1) := by decide +kernel
theorem dX5_spread_33 : decode cX5_spread 33 = .ok (.getfield 35, 3) := by decide +kernel
theorem dX5_spread_36 : decode cX5_spread 36 = .ok (.iload_n 1, 1) := by decide +kernel
theorem dX5_spread_37 : decode cX5_spread 37 = .ok (.invokevirtual 147, 3) := by decide +kernel
theorem dX5_spread_40 : decode cX5_spread 40 = .ok (.istore 4, 2) := by decide +kernel
theorem dX5_spread_42 : decode cX5_spread 42 = .ok (.iload_n 2, 1) := by decide +kernel
theorem dX5_spread_43 : decode cX5_spread 43 = .ok (.lookupswitch 58 #[(0, 25), (1, 40)], 25) := by decide +kernel
theorem dX5_spread_68 : decode cX5_spread 68 = .ok (.aload_n 0, 1) := by decide +kernel
theorem dX5_spread_69 : decode cX5_spread 69 = .ok (.getfield 35, 3) := by decide +kernel
theorem dX5_spread_72 : decode cX5_spread 72 = .ok (.iload_n 1, 1) := by decide +kernel
theorem dX5_spread_73 : decode cX5_spread 73 = .ok (.invokevirtual 150, 3) := by decide +kernel
theorem dX5_spread_76 : decode cX5_spread 76 = .ok (.iload 4, 2) := by decide +kernel
theorem dX5_spread_78 : decode cX5_spread 78 = .ok (.iload_n 3, 1) := by decide +kernel
theorem dX5_spread_79 : decode cX5_spread 79 = .ok (.invokestatic 156, 3) := by decide +kernel
theorem dX5_spread_82 : decode cX5_spread 82 = .ok (.ireturn, 1) := by decide +kernel
theorem dX5_spread_83 : decode cX5_spread 83 = .ok (.aload_n 0, 1) := by decide +kernel
theorem dX5_spread_84 : decode cX5_spread 84 = .ok (.getfield 35, 3) := by decide +kernel
theorem dX5_spread_87 : decode cX5_spread 87 = .ok (.iload_n 1, 1) := by decide +kernel
theorem dX5_spread_88 : decode cX5_spread 88 = .ok (.invokevirtual 160, 3) := by decide +kernel
theorem dX5_spread_91 : decode cX5_spread 91 = .ok (.iload 4, 2) := by decide +kernel
theorem dX5_spread_93 : decode cX5_spread 93 = .ok (.iload 4, 2) := by decide +kernel
theorem dX5_spread_95 : decode cX5_spread 95 = .ok (.imul, 1) := by decide +kernel
theorem dX5_spread_96 : decode cX5_spread 96 = .ok (.iload_n 3, 1) := by decide +kernel
theorem dX5_spread_97 : decode cX5_spread 97 = .ok (.invokestatic 156, 3) := by decide +kernel
theorem dX5_spread_100 : decode cX5_spread 100 = .ok (.ireturn, 1) := by decide +kernel
theorem dX5_spread_101 : decode cX5_spread 101 = .ok (.bipush (-2), 2) := by decide +kernel
theorem dX5_spread_103 : decode cX5_spread 103 = .ok (.ireturn, 1) := by decide +kernel
theorem dX5_mark_0 : decode cX5_mark 0 = .ok (.aload_n 0, 1) := by decide +kernel
theorem dX5_mark_1 : decode cX5_mark 1 = .ok (.getfield 19, 3) := by decide +kernel
theorem dX5_mark_4 : decode cX5_mark 4 = .ok (.iload_n 1, 1) := by decide +kernel
theorem dX5_mark_5 : decode cX5_mark 5 = .ok (.invokevirtual 131, 3) := by decide +kernel
theorem dX5_mark_8 : decode cX5_mark 8 = .ok (.ifCond .ne 5, 3) := by decide +kernel
theorem dX5_mark_11 : decode cX5_mark 11 = .ok (.iconst (-1), 1) := by decide +kernel
theorem dX5_mark_12 : decode cX5_mark 12 = .ok (.ireturn, 1) := by decide +kernel
theorem dX5_mark_13 : decode cX5_mark 13 = .ok (.aload_n 0, 1) := by decide +kernel
theorem dX5_mark_14 : decode cX5_mark 14 = .ok (.getfield 35, 3) := by decide +kernel
theorem dX5_mark_17 : decode cX5_mark 17 = .ok (.aload_n 0, 1) := by decide +kernel
theorem dX5_mark_18 : decode cX5_mark 18 = .ok (.getfield 19, 3) := by decide +kernel
theorem dX5_mark_21 : decode cX5_mark 21 = .ok (.iload_n 1, 1) := by decide +kernel
theorem dX5_mark_22 : decode cX5_mark 22 = .ok (.aload_n 0, 1) := by decide +kernel
theorem dX5_mark_23 : decode cX5_mark 23 = .ok (.getfield 19, 3) := by decide +kernel
theorem dX5_mark_26 : decode cX5_mark 26 = .ok (.getfield 106, 3) := by decide +kernel
theorem dX5_mark_29 : decode cX5_mark 29 = .ok (.invokevirtual 143, 3) := by decide +kernel
theorem dX5_mark_32 : decode cX5_mark 32 = .ok (.aload_n 0, 1) := by decide +kernel
theorem dX5_mark_33 : decode cX5_mark 33 = .ok (.getfield 35, 3) := by decide +kernel
theorem dX5_mark_36 : decode cX5_mark 36 = .ok (.iload_n 1, 1) := by decide +kernel
theorem dX5_mark_37 : decode cX5_mark 37 = .ok (.aload_n 0, 1) := by decide +kernel
theorem dX5_mark_38 : decode cX5_mark 38 = .ok (.getfield 19, 3) := by decide +kernel
theorem dX5_mark_41 : decode cX5_mark 41 = .ok (.getfield 109, 3) := by decide +kernel
theorem dX5_mark_44 : decode cX5_mark 44 = .ok (.invokevirtual 163, 3) := by decide +kernel
theorem dX5_mark_47 : decode cX5_mark 47 = .ok (.ireturn, 1) := by decide +kernel
theorem dX5_under_0 : decode cX5_under 0 = .ok (.aload_n 0, 1) := by decide +kernel
theorem dX5_under_1 : decode cX5_under 1 = .ok (.getfield 19, 3) := by decide +kernel
theorem dX5_under_4 : decode cX5_under 4 = .ok (.iload_n 1, 1) := by decide +kernel
theorem dX5_under_5 : decode cX5_under 5 = .ok (.invokevirtual 131, 3) := by decide +kernel
theorem dX5_under_8 : decode cX5_under 8 = .ok (.ifCond .ne 5, 3) := by decide +kernel
theorem dX5_under_11 : decode cX5_under 11 = .ok (.iconst (-1), 1) := by decide +kernel
theorem dX5_under_12 : decode cX5_under 12 = .ok (.ireturn, 1) := by decide +kernel
theorem dX5_under_13 : decode cX5_under 13 = .ok (.aload_n 0, 1) := by decide +kernel
theorem dX5_under_14 : decode cX5_under 14 = .ok (.getfield 19, 3) := by decide +kernel
theorem dX5_under_17 : decode cX5_under 17 = .ok (.iload_n 1, 1) := by decide +kernel
theorem dX5_under_18 : decode cX5_under 18 = .ok (.aload_n 0, 1) := by decide +kernel
theorem dX5_under_19 : decode cX5_under 19 = .ok (.getfield 19, 3) := by decide +kernel
theorem dX5_under_22 : decode cX5_under 22 = .ok (.getfield 112, 3) := by decide +kernel
theorem dX5_under_25 : decode cX5_under 25 = .ok (.aload_n 0, 1) := by decide +kernel
theorem dX5_under_26 : decode cX5_under 26 = .ok (.getfield 19, 3) := by decide +kernel
theorem dX5_under_29 : decode cX5_under 29 = .ok (.getfield 115, 3) := by decide +kernel
theorem dX5_under_32 : decode cX5_under 32 = .ok (.invokevirtual 166, 3) := by decide +kernel
theorem dX5_under_35 : decode cX5_under 35 = .ok (.ireturn, 1) := by decide +kernel
theorem dX5_cleaned_0 : decode cX5_cleaned 0 = .ok (.iload_n 1, 1) := by decide +kernel
theorem dX5_cleaned_1 : decode cX5_cleaned 1 = .ok (.ifCond .lt 9, 3) := by decide +kernel
theorem dX5_cleaned_4 : decode cX5_cleaned 4 = .ok (.iload_n 1, 1) := by decide +kernel
theorem dX5_cleaned_5 : decode cX5_cleaned 5 = .ok (.bipush 25, 2) := by decide +kernel
theorem dX5_cleaned_7 : decode cX5_cleaned 7 = .ok (.if_icmp .le 6, 3) := by decide +kernel
theorem dX5_cleaned_10 : decode cX5_cleaned 10 = .ok (.bipush (-2), 2) := by decide +kernel
theorem dX5_cleaned_12 : decode cX5_cleaned 12 = .ok (.ireturn, 1) := by decide +kernel
theorem dX5_cleaned_13 : decode cX5_cleaned 13 = .ok (.aload_n 0, 1) := by decide +kernel
theorem dX5_cleaned_14 : decode cX5_cleaned 14 = .ok (.getfield 35, 3) := by decide +kernel
theorem dX5_cleaned_17 : decode cX5_cleaned 17 = .ok (.aload_n 0, 1) := by decide +kernel
theorem dX5_cleaned_18 : decode cX5_cleaned 18 = .ok (.getfield 19, 3) := by decide +kernel
theorem dX5_cleaned_21 : decode cX5_cleaned 21 = .ok (.aload_n 0, 1) := by decide +kernel
theorem dX5_cleaned_22 : decode cX5_cleaned 22 = .ok (.getfield 19, 3) := by decide +kernel
theorem dX5_cleaned_25 : decode cX5_cleaned 25 = .ok (.getfield 106, 3) := by decide +kernel
theorem dX5_cleaned_28 : decode cX5_cleaned 28 = .ok (.invokevirtual 170, 3) := by decide +kernel
theorem dX5_cleaned_31 : decode cX5_cleaned 31 = .ok (.aload_n 0, 1) := by decide +kernel
theorem dX5_cleaned_32 : decode cX5_cleaned 32 = .ok (.getfield 35, 3) := by decide +kernel
theorem dX5_cleaned_35 : decode cX5_cleaned 35 = .ok (.aload_n 0, 1) := by decide +kernel
theorem dX5_cleaned_36 : decode cX5_cleaned 36 = .ok (.getfield 19, 3) := by decide +kernel
theorem dX5_cleaned_39 : decode cX5_cleaned 39 = .ok (.getfield 109, 3) := by decide +kernel
theorem dX5_cleaned_42 : decode cX5_cleaned 42 = .ok (.iconst 2, 1) := by decide +kernel
theorem dX5_cleaned_43 : decode cX5_cleaned 43 = .ok (.invokevirtual 174, 3) := by decide +kernel
theorem dX5_cleaned_46 : decode cX5_cleaned 46 = .ok (.istore_n 2, 1) := by decide +kernel
theorem dX5_cleaned_47 : decode cX5_cleaned 47 = .ok (.iload_n 2, 1) := by decide +kernel
theorem dX5_cleaned_48 : decode cX5_cleaned 48 = .ok (.istore_n 3, 1) := by decide +kernel
theorem dX5_cleaned_49 : decode cX5_cleaned 49 = .ok (.iconst 0, 1) := by decide +kernel
theorem dX5_cleaned_50 : decode cX5_cleaned 50 = .ok (.istore 4, 2) := by decide +kernel
theorem dX5_cleaned_52 : decode cX5_cleaned 52 = .ok (.iconst 0, 1) := by decide +kernel
theorem dX5_cleaned_53 : decode cX5_cleaned 53 = .ok (.istore 5, 2) := by decide +kernel
theorem dX5_cleaned_55 : decode cX5_cleaned 55 = .ok (.iload 5, 2) := by decide +kernel
theorem dX5_cleaned_57 : decode cX5_cleaned 57 = .ok (.bipush 25, 2) := by decide +kernel
theorem dX5_cleaned_59 : decode cX5_cleaned 59 = .ok (.if_icmp .ge 61, 3) := by decide +kernel
theorem dX5_cleaned_62 : decode cX5_cleaned 62 = .ok (.iload_n 3, 1) := by decide +kernel
theorem dX5_cleaned_63 : decode cX5_cleaned 63 = .ok (.iconst 1, 1) := by decide +kernel
theorem dX5_cleaned_64 : decode cX5_cleaned 64 = .ok (.iload 5, 2) := by decide +kernel
theorem dX5_cleaned_66 : decode cX5_cleaned 66 = .ok (.ishl, 1) := by decide +kernel
theorem dX5_cleaned_67 : decode cX5_cleaned 67 = .ok (.iand, 1) := by decide +kernel
theorem dX5_cleaned_68 : decode cX5_cleaned 68 = .ok (.istore 6, 2) := by decide +kernel
theorem dX5_cleaned_70 : decode cX5_cleaned 70 = .ok (.iload 6, 2) := by decide +kernel
theorem dX5_cleaned_72 : decode cX5_cleaned 72 = .ok (.ifCond .eq 42, 3) := by decide +kernel
theorem dX5_cleaned_75 : decode cX5_cleaned 75 = .ok (.aload_n 0, 1) := by decide +kernel
theorem dX5_cleaned_76 : decode cX5_cleaned 76 = .ok (.getfield 19, 3) := by decide +kernel
theorem dX5_cleaned_79 : decode cX5_cleaned 79 = .ok (.iload 6, 2) := by decide +kernel
theorem dX5_cleaned_81 : decode cX5_cleaned 81 = .ok (.iload_n 2, 1) := by decide +kernel
theorem dX5_cleaned_82 : decode cX5_cleaned 82 = .ok (.invokevirtual 177, 3) := by decide +kernel
theorem dX5_cleaned_85 : decode cX5_cleaned 85 = .ok (.istore 7, 2) := by decide +kernel
theorem dX5_cleaned_87 : decode cX5_cleaned 87 = .ok (.iload_n 3, 1) := by decide +kernel
theorem dX5_cleaned_88 : decode cX5_cleaned 88 = .ok (.iload 7, 2) := by decide +kernel
theorem dX5_cleaned_90 : decode cX5_cleaned 90 = .ok (.iconst (-1), 1) := by decide +kernel
theorem dX5_cleaned_91 : decode cX5_cleaned 91 = .ok (.ixor, 1) := by decide +kernel
theorem dX5_cleaned_92 : decode cX5_cleaned 92 = .ok (.iand, 1) := by decide +kernel
theorem dX5_cleaned_93 : decode cX5_cleaned 93 = .ok (.istore_n 3, 1) := by decide +kernel
theorem dX5_cleaned_94 : decode cX5_cleaned 94 = .ok (.iload 4, 2) := by decide +kernel
theorem dX5_cleaned_96 : decode cX5_cleaned 96 = .ok (.iload 7, 2) := by decide +kernel
theorem dX5_cleaned_98 : decode cX5_cleaned 98 = .ok (.invokestatic 180, 3) := by decide +kernel
theorem dX5_cleaned_101 : decode cX5_cleaned 101 = .ok (.iload_n 1, 1) := by decide +kernel
theorem dX5_cleaned_102 : decode cX5_cleaned 102 = .ok (.if_icmp .le 8, 3) := by decide +kernel
theorem dX5_cleaned_105 : decode cX5_cleaned 105 = .ok (.iload 7, 2) := by decide +kernel
theorem dX5_cleaned_107 : decode cX5_cleaned 107 = .ok (.goto 4, 3) := by decide +kernel
theorem dX5_cleaned_110 : decode cX5_cleaned 110 = .ok (.iconst 0, 1) := by decide +kernel
theorem dX5_cleaned_111 : decode cX5_cleaned 111 = .ok (.ior, 1) := by decide +kernel
theorem dX5_cleaned_112 : decode cX5_cleaned 112 = .ok (.istore 4, 2) := by decide +kernel
theorem dX5_cleaned_114 : decode cX5_cleaned 114 = .ok (.iinc 5 1, 3) := by decide +kernel
theorem dX5_cleaned_117 : decode cX5_cleaned 117 = .ok (.goto (-62), 3) := by decide +kernel
theorem dX5_cleaned_120 : decode cX5_cleaned 120 = .ok (.iload 4, 2) := by decide +kernel
theorem dX5_cleaned_122 : decode cX5_cleaned 122 = .ok (.ireturn, 1) := by decide +kernel
theorem dX5_paint_0 : decode cX5_paint 0 = .ok (.iload_n 1, 1) := by decide +kernel
theorem dX5_paint_1 : decode cX5_paint 1 = .ok (.invokestatic 127, 3) := by decide +kernel
theorem dX5_paint_4 : decode cX5_paint 4 = .ok (.ifCond .eq 14, 3) := by decide +kernel
theorem dX5_paint_7 : decode cX5_paint 7 = .ok (.aload_n 0, 1) := by decide +kernel
theorem dX5_paint_8 : decode cX5_paint 8 = .ok (.getfield 19, 3) := by decide +kernel
theorem dX5_paint_11 : decode cX5_paint 11 = .ok (.iload_n 2, 1) := by decide +kernel
theorem dX5_paint_12 : decode cX5_paint 12 = .ok (.invokevirtual 131, 3) := by decide +kernel
theorem dX5_paint_15 : decode cX5_paint 15 = .ok (.ifCond .ne 5, 3) := by decide +kernel
theorem dX5_paint_18 : decode cX5_paint 18 = .ok (.iconst (-1), 1) := by decide +kernel
theorem dX5_paint_19 : decode cX5_paint 19 = .ok (.ireturn, 1) := by decide +kernel
theorem dX5_paint_20 : decode cX5_paint 20 = .ok (.iload_n 3, 1) := by decide +kernel
theorem dX5_paint_21 : decode cX5_paint 21 = .ok (.invokestatic 137, 3) := by decide +kernel
theorem dX5_paint_24 : decode cX5_paint 24 = .ok (.ifCond .ne 6, 3) := by decide +kernel
theorem dX5_paint_27 : decode cX5_paint 27 = .ok (.bipush (-2), 2) := by decide +kernel
theorem dX5_paint_29 : decode cX5_paint 29 = .ok (.ireturn, 1) := by decide +kernel
theorem dX5_paint_30 : decode cX5_paint 30 = .ok (.aload_n 0, 1) := by decide +kernel
theorem dX5_paint_31 : decode cX5_paint 31 = .ok (.getfield 19, 3) := by decide +kernel
theorem dX5_paint_34 : decode cX5_paint 34 = .ok (.iload_n 1, 1) := by decide +kernel
theorem dX5_paint_35 : decode cX5_paint 35 = .ok (.iload_n 2, 1) := by decide +kernel
theorem dX5_paint_36 : decode cX5_paint 36 = .ok (.invokevirtual 134, 3) := by decide +kernel
theorem dX5_paint_39 : decode cX5_paint 39 = .ok (.istore 4, 2) := by decide +kernel
theorem dX5_paint_41 : decode cX5_paint 41 = .ok (.aload_n 0, 1) := by decide +kernel
theorem dX5_paint_42 : decode cX5_paint 42 = .ok (.getfield 42, 3) := by decide +kernel
theorem dX5_paint_45 : decode cX5_paint 45 = .ok (.iconst 1, 1) := by decide +kernel
theorem dX5_paint_46 : decode cX5_paint 46 = .ok (.iload_n 1, 1) := by decide +kernel
theorem dX5_paint_47 : decode cX5_paint 47 = .ok (.iload_n 2, 1) := by decide +kernel
theorem dX5_paint_48 : decode cX5_paint 48 = .ok (.iload 4, 2) := by decide +kernel
theorem dX5_paint_50 : decode cX5_paint 50 = .ok (.invokevirtual 185, 3) := by decide +kernel
theorem dX5_paint_53 : decode cX5_paint 53 = .ok (.aload_n 0, 1) := by decide +kernel
theorem dX5_paint_54 : decode cX5_paint 54 = .ok (.getfield 19, 3) := by decide +kernel
theorem dX5_paint_57 : decode cX5_paint 57 = .ok (.iload_n 1, 1) := by decide +kernel
theorem dX5_paint_58 : decode cX5_paint 58 = .ok (.iload_n 2, 1) := by decide +kernel
theorem dX5_paint_59 : decode cX5_paint 59 = .ok (.iload_n 3, 1) := by decide +kernel
theorem dX5_paint_60 : decode cX5_paint 60 = .ok (.invokevirtual 189, 3) := by decide +kernel
theorem dX5_paint_63 : decode cX5_paint 63 = .ok (.iload 4, 2) := by decide +kernel
theorem dX5_paint_65 : decode cX5_paint 65 = .ok (.ireturn, 1) := by decide +kernel
theorem dX5_light_0 : decode cX5_light 0 = .ok (.iload_n 1, 1) := by decide +kernel
theorem dX5_light_1 : decode cX5_light 1 = .ok (.invokestatic 193, 3) := by decide +kernel
theorem dX5_light_4 : decode cX5_light 4 = .ok (.ifCond .ne 6, 3) := by decide +kernel
theorem dX5_light_7 : decode cX5_light 7 = .ok (.bipush (-2), 2) := by decide +kernel
theorem dX5_light_9 : decode cX5_light 9 = .ok (.ireturn, 1) := by decide +kernel
theorem dX5_light_10 : decode cX5_light 10 = .ok (.aload_n 0, 1) := by decide +kernel
theorem dX5_light_11 : decode cX5_light 11 = .ok (.getfield 19, 3) := by decide +kernel
theorem dX5_light_14 : decode cX5_light 14 = .ok (.iload_n 1, 1) := by decide +kernel
theorem dX5_light_15 : decode cX5_light 15 = .ok (.invokevirtual 196, 3) := by decide +kernel
theorem dX5_light_18 : decode cX5_light 18 = .ok (.ifCond .ne 6, 3) := by decide +kernel
theorem dX5_light_21 : decode cX5_light 21 = .ok (.bipush (-3), 2) := by decide +kernel
theorem dX5_light_23 : decode cX5_light 23 = .ok (.ireturn, 1) := by decide +kernel
theorem dX5_light_24 : decode cX5_light 24 = .ok (.aload_n 0, 1) := by decide +kernel
theorem dX5_light_25 : decode cX5_light 25 = .ok (.getfield 42, 3) := by decide +kernel
theorem dX5_light_28 : decode cX5_light 28 = .ok (.iconst 2, 1) := by decide +kernel
theorem dX5_light_29 : decode cX5_light 29 = .ok (.iload_n 1, 1) := by decide +kernel
theorem dX5_light_30 : decode cX5_light 30 = .ok (.iconst 0, 1) := by decide +kernel
theorem dX5_light_31 : decode cX5_light 31 = .ok (.iconst 0, 1) := by decide +kernel
theorem dX5_light_32 : decode cX5_light 32 = .ok (.invokevirtual 185, 3) := by decide +kernel
theorem dX5_light_35 : decode cX5_light 35 = .ok (.aload_n 0, 1) := by decide +kernel
theorem dX5_light_36 : decode cX5_light 36 = .ok (.getfield 19, 3) := by decide +kernel
theorem dX5_light_39 : decode cX5_light 39 = .ok (.iload_n 1, 1) := by decide +kernel
theorem dX5_light_40 : decode cX5_light 40 = .ok (.invokevirtual 199, 3) := by decide +kernel
theorem dX5_light_43 : decode cX5_light 43 = .ok (.aload_n 0, 1) := by decide +kernel
theorem dX5_light_44 : decode cX5_light 44 = .ok (.getfield 19, 3) := by decide +kernel
theorem dX5_light_47 : decode cX5_light 47 = .ok (.invokevirtual 100, 3) := by decide +kernel
theorem dX5_light_50 : decode cX5_light 50 = .ok (.ireturn, 1) := by decide +kernel
theorem dX5_rule_0 : decode cX5_rule 0 = .ok (.iload_n 1, 1) := by decide +kernel
theorem dX5_rule_1 : decode cX5_rule 1 = .ok (.iload_n 2, 1) := by decide +kernel
theorem dX5_rule_2 : decode cX5_rule 2 = .ok (.iload_n 3, 1) := by decide +kernel
theorem dX5_rule_3 : decode cX5_rule 3 = .ok (.invokestatic 203, 3) := by decide +kernel
theorem dX5_rule_6 : decode cX5_rule 6 = .ok (.ifCond .ne 6, 3) := by decide +kernel
theorem dX5_rule_9 : decode cX5_rule 9 = .ok (.bipush (-2), 2) := by decide +kernel
theorem dX5_rule_11 : decode cX5_rule 11 = .ok (.ireturn, 1) := by decide +kernel
theorem dX5_rule_12 : decode cX5_rule 12 = .ok (.aload_n 0, 1) := by decide +kernel
theorem dX5_rule_13 : decode cX5_rule 13 = .ok (.getfield 42, 3) := by decide +kernel
theorem dX5_rule_16 : decode cX5_rule 16 = .ok (.iconst 3, 1) := by decide +kernel
theorem dX5_rule_17 : decode cX5_rule 17 = .ok (.aload_n 0, 1) := by decide +kernel
theorem dX5_rule_18 : decode cX5_rule 18 = .ok (.getfield 19, 3) := by decide +kernel
theorem dX5_rule_21 : decode cX5_rule 21 = .ok (.getfield 103, 3) := by decide +kernel
theorem dX5_rule_24 : decode cX5_rule 24 = .ok (.aload_n 0, 1) := by decide +kernel
theorem dX5_rule_25 : decode cX5_rule 25 = .ok (.getfield 19, 3) := by decide +kernel
theorem dX5_rule_28 : decode cX5_rule 28 = .ok (.getfield 106, 3) := by decide +kernel
theorem dX5_rule_31 : decode cX5_rule 31 = .ok (.aload_n 0, 1) := by decide +kernel
theorem dX5_rule_32 : decode cX5_rule 32 = .ok (.getfield 19, 3) := by decide +kernel
theorem dX5_rule_35 : decode cX5_rule 35 = .ok (.getfield 109, 3) := by decide +kernel
theorem dX5_rule_38 : decode cX5_rule 38 = .ok (.invokevirtual 185, 3) := by decide +kernel
theorem dX5_rule_41 : decode cX5_rule 41 = .ok (.aload_n 0, 1) := by decide +kernel
theorem dX5_rule_42 : decode cX5_rule 42 = .ok (.getfield 19, 3) := by decide +kernel
theorem dX5_rule_45 : decode cX5_rule 45 = .ok (.iload_n 1, 1) := by decide +kernel
theorem dX5_rule_46 : decode cX5_rule 46 = .ok (.iload_n 2, 1) := by decide +kernel
theorem dX5_rule_47 : decode cX5_rule 47 = .ok (.iload_n 3, 1) := by decide +kernel
theorem dX5_rule_48 : decode cX5_rule 48 = .ok (.invokevirtual 207, 3) := by decide +kernel
theorem dX5_rule_51 : decode cX5_rule 51 = .ok (.aload_n 0, 1) := by decide +kernel
theorem dX5_rule_52 : decode cX5_rule 52 = .ok (.getfield 35, 3) := by decide +kernel
theorem dX5_rule_55 : decode cX5_rule 55 = .ok (.aload_n 0, 1) := by decide +kernel
theorem dX5_rule_56 : decode cX5_rule 56 = .ok (.getfield 19, 3) := by decide +kernel
theorem dX5_rule_59 : decode cX5_rule 59 = .ok (.iconst 2, 1) := by decide +kernel
theorem dX5_rule_60 : decode cX5_rule 60 = .ok (.invokevirtual 96, 3) := by decide +kernel
theorem dX5_rule_63 : decode cX5_rule 63 = .ok (.ireturn, 1) := by decide +kernel
theorem dX5_table_0 : decode cX5_table 0 = .ok (.iload_n 1, 1) := by decide +kernel
theorem dX5_table_1 : decode cX5_table 1 = .ok (.invokestatic 137, 3) := by decide +kernel
theorem dX5_table_4 : decode cX5_table 4 = .ok (.ifCond .eq 10, 3) := by decide +kernel
theorem dX5_table_7 : decode cX5_table 7 = .ok (.iload_n 2, 1) := by decide +kernel
theorem dX5_table_8 : decode cX5_table 8 = .ok (.invokestatic 137, 3) := by decide +kernel
theorem dX5_table_11 : decode cX5_table 11 = .ok (.ifCond .ne 6, 3) := by decide +kernel
theorem dX5_table_14 : decode cX5_table 14 = .ok (.bipush (-2), 2) := by decide +kernel
theorem dX5_table_16 : decode cX5_table 16 = .ok (.ireturn, 1) := by decide +kernel
theorem dX5_table_17 : decode cX5_table 17 = .ok (.aload_n 0, 1) := by decide +kernel
theorem dX5_table_18 : decode cX5_table 18 = .ok (.getfield 19, 3) := by decide +kernel
theorem dX5_table_21 : decode cX5_table 21 = .ok (.iload_n 1, 1) := by decide +kernel
theorem dX5_table_22 : decode cX5_table 22 = .ok (.invokevirtual 140, 3) := by decide +kernel
theorem dX5_table_25 : decode cX5_table 25 = .ok (.istore_n 3, 1) := by decide +kernel
theorem dX5_table_26 : decode cX5_table 26 = .ok (.aload_n 0, 1) := by decide +kernel
theorem dX5_table_27 : decode cX5_table 27 = .ok (.getfield 42, 3) := by decide +kernel
theorem dX5_table_30 : decode cX5_table 30 = .ok (.iconst 4, 1) := by decide +kernel
theorem dX5_table_31 : decode cX5_table 31 = .ok (.iload_n 1, 1) := by decide +kernel
theorem dX5_table_32 : decode cX5_table 32 = .ok (.iload_n 3, 1) := by decide +kernel
theorem dX5_table_33 : decode cX5_table 33 = .ok (.iconst 0, 1) := by decide +kernel
theorem dX5_table_34 : decode cX5_table 34 = .ok (.invokevirtual 185, 3) := by decide +kernel
theorem dX5_table_37 : decode cX5_table 37 = .ok (.aload_n 0, 1) := by decide +kernel
theorem dX5_table_38 : decode cX5_table 38 = .ok (.getfield 19, 3) := by decide +kernel
theorem dX5_table_41 : decode cX5_table 41 = .ok (.iload_n 1, 1) := by decide +kernel
theorem dX5_table_42 : decode cX5_table 42 = .ok (.iload_n 2, 1) := by decide +kernel
theorem dX5_table_43 : decode cX5_table 43 = .ok (.invokevirtual 210, 3) := by decide +kernel
theorem dX5_table_46 : decode cX5_table 46 = .ok (.iload_n 3, 1) := by decide +kernel
theorem dX5_table_47 : decode cX5_table 47 = .ok (.ireturn, 1) := by decide +kernel
theorem dX5_lay_0 : decode cX5_lay 0 = .ok (.iload_n 1, 1) := by decide +kernel
theorem dX5_lay_1 : decode cX5_lay 1 = .ok (.iload_n 2, 1) := by decide +kernel
theorem dX5_lay_2 : decode cX5_lay 2 = .ok (.invokestatic 214, 3) := by decide +kernel
theorem dX5_lay_5 : decode cX5_lay 5 = .ok (.ifCond .ne 6, 3) := by decide +kernel
theorem dX5_lay_8 : decode cX5_lay 8 = .ok (.bipush (-2), 2) := by decide +kernel
theorem dX5_lay_10 : decode cX5_lay 10 = .ok (.ireturn, 1) := by decide +kernel
theorem dX5_lay_11 : decode cX5_lay 11 = .ok (.aload_n 0, 1) := by decide +kernel
theorem dX5_lay_12 : decode cX5_lay 12 = .ok (.getfield 42, 3) := by decide +kernel
theorem dX5_lay_15 : decode cX5_lay 15 = .ok (.iconst 5, 1) := by decide +kernel
theorem dX5_lay_16 : decode cX5_lay 16 = .ok (.aload_n 0, 1) := by decide +kernel
theorem dX5_lay_17 : decode cX5_lay 17 = .ok (.getfield 19, 3) := by decide +kernel
theorem dX5_lay_20 : decode cX5_lay 20 = .ok (.getfield 112, 3) := by decide +kernel
theorem dX5_lay_23 : decode cX5_lay 23 = .ok (.aload_n 0, 1) := by decide +kernel
theorem dX5_lay_24 : decode cX5_lay 24 = .ok (.getfield 19, 3) := by decide +kernel
theorem dX5_lay_27 : decode cX5_lay 27 = .ok (.getfield 115, 3) := by decide +kernel
theorem dX5_lay_30 : decode cX5_lay 30 = .ok (.iconst 0, 1) := by decide +kernel
theorem dX5_lay_31 : decode cX5_lay 31 = .ok (.invokevirtual 185, 3) := by decide +kernel
theorem dX5_lay_34 : decode cX5_lay 34 = .ok (.aload_n 0, 1) := by decide +kernel
theorem dX5_lay_35 : decode cX5_lay 35 = .ok (.getfield 19, 3) := by decide +kernel
theorem dX5_lay_38 : decode cX5_lay 38 = .ok (.iload_n 1, 1) := by decide +kernel
theorem dX5_lay_39 : decode cX5_lay 39 = .ok (.iload_n 2, 1) := by decide +kernel
theorem dX5_lay_40 : decode cX5_lay 40 = .ok (.invokevirtual 218, 3) := by decide +kernel
theorem dX5_lay_43 : decode cX5_lay 43 = .ok (.aload_n 0, 1) := by decide +kernel
theorem dX5_lay_44 : decode cX5_lay 44 = .ok (.getfield 35, 3) := by decide +kernel
theorem dX5_lay_47 : decode cX5_lay 47 = .ok (.aload_n 0, 1) := by decide +kernel
theorem dX5_lay_48 : decode cX5_lay 48 = .ok (.getfield 19, 3) := by decide +kernel
theorem dX5_lay_51 : decode cX5_lay 51 = .ok (.iconst 2, 1) := by decide +kernel
theorem dX5_lay_52 : decode cX5_lay 52 = .ok (.invokevirtual 96, 3) := by decide +kernel
theorem dX5_lay_55 : decode cX5_lay 55 = .ok (.ireturn, 1) := by decide +kernel
theorem dX5_undo_0 : decode cX5_undo 0 = .ok (.aload_n 0, 1) := by decide +kernel
theorem dX5_undo_1 : decode cX5_undo 1 = .ok (.getfield 42, 3) := by decide +kernel
theorem dX5_undo_4 : decode cX5_undo 4 = .ok (.invokevirtual 122, 3) := by decide +kernel
theorem dX5_undo_7 : decode cX5_undo 7 = .ok (.ifCond .ne 6, 3) := by decide +kernel
theorem dX5_undo_10 : decode cX5_undo 10 = .ok (.bipush (-3), 2) := by decide +kernel
theorem dX5_undo_12 : decode cX5_undo 12 = .ok (.ireturn, 1) := by decide +kernel
theorem dX5_undo_13 : decode cX5_undo 13 = .ok (.aload_n 0, 1) := by decide +kernel
theorem dX5_undo_14 : decode cX5_undo 14 = .ok (.getfield 42, 3) := by decide +kernel
theorem dX5_undo_17 : decode cX5_undo 17 = .ok (.aload_n 0, 1) := by decide +kernel
theorem dX5_undo_18 : decode cX5_undo 18 = .ok (.getfield 19, 3) := by decide +kernel
theorem dX5_undo_21 : decode cX5_undo 21 = .ok (.invokevirtual 221, 3) := by decide +kernel
theorem dX5_undo_24 : decode cX5_undo 24 = .ok (.ireturn, 1) := by decide +kernel
theorem dX5_fit_0 : decode cX5_fit 0 = .ok (.iload_n 1, 1) := by decide +kernel
theorem dX5_fit_1 : decode cX5_fit 1 = .ok (.iload_n 2, 1) := by decide +kernel
theorem dX5_fit_2 : decode cX5_fit 2 = .ok (.invokestatic 214, 3) := by decide +kernel
theorem dX5_fit_5 : decode cX5_fit 5 = .ok (.ifCond .ne 6, 3) := by decide +kernel
theorem dX5_fit_8 : decode cX5_fit 8 = .ok (.bipush (-2), 2) := by decide +kernel
theorem dX5_fit_10 : decode cX5_fit 10 = .ok (.ireturn, 1) := by decide +kernel
theorem dX5_fit_11 : decode cX5_fit 11 = .ok (.aload_n 0, 1) := by decide +kernel
theorem dX5_fit_12 : decode cX5_fit 12 = .ok (.getfield 19, 3) := by decide +kernel
theorem dX5_fit_15 : decode cX5_fit 15 = .ok (.iload_n 1, 1) := by decide +kernel
theorem dX5_fit_16 : decode cX5_fit 16 = .ok (.iload_n 2, 1) := by decide +kernel
theorem dX5_fit_17 : decode cX5_fit 17 = .ok (.invokevirtual 225, 3) := by decide +kernel
theorem dX5_fit_20 : decode cX5_fit 20 = .ok (.istore 4, 2) := by decide +kernel
theorem dX5_fit_22 : decode cX5_fit 22 = .ok (.iload 4, 2) := by decide +kernel
theorem dX5_fit_24 : decode cX5_fit 24 = .ok (.ifCond .ne 8, 3) := by decide +kernel
theorem dX5_fit_27 : decode cX5_fit 27 = .ok (.bipush (-9), 2) := by decide +kernel
theorem dX5_fit_29 : decode cX5_fit 29 = .ok (.goto 18, 3) := by decide +kernel
theorem dX5_fit_32 : decode cX5_fit 32 = .ok (.aload_n 0, 1) := by decide +kernel
theorem dX5_fit_33 : decode cX5_fit 33 = .ok (.getfield 19, 3) := by decide +kernel
theorem dX5_fit_36 : decode cX5_fit 36 = .ok (.iload_n 1, 1) := by decide +kernel
theorem dX5_fit_37 : decode cX5_fit 37 = .ok (.iload_n 2, 1) := by decide +kernel
theorem dX5_fit_38 : decode cX5_fit 38 = .ok (.invokevirtual 228, 3) := by decide +kernel
theorem dX5_fit_41 : decode cX5_fit 41 = .ok (.iload 4, 2) := by decide +kernel
theorem dX5_fit_43 : decode cX5_fit 43 = .ok (.iload_n 3, 1) := by decide +kernel
theorem dX5_fit_44 : decode cX5_fit 44 = .ok (.invokestatic 156, 3) := by decide +kernel
theorem dX5_fit_47 : decode cX5_fit 47 = .ok (.ireturn, 1) := by decide +kernel
theorem dX5_best_0 : decode cX5_best 0 = .ok (.iload_n 1, 1) := by decide +kernel
theorem dX5_best_1 : decode cX5_best 1 = .ok (.tableswitch 44 0 2 #[27, 32, 38], 27) := by decide +kernel
theorem dX5_best_28 : decode cX5_best 28 = .ok (.aload_n 0, 1) := by decide +kernel
theorem dX5_best_29 : decode cX5_best 29 = .ok (.invokevirtual 231, 3) := by decide +kernel
theorem dX5_best_32 : decode cX5_best 32 = .ok (.ireturn, 1) := by decide +kernel
theorem dX5_best_33 : decode cX5_best 33 = .ok (.aload_n 0, 1) := by decide +kernel
theorem dX5_best_34 : decode cX5_best 34 = .ok (.iconst 1, 1) := by decide +kernel
theorem dX5_best_35 : decode cX5_best 35 = .ok (.invokevirtual 234, 3) := by decide +kernel
theorem dX5_best_38 : decode cX5_best 38 = .ok (.ireturn, 1) := by decide +kernel
theorem dX5_best_39 : decode cX5_best 39 = .ok (.aload_n 0, 1) := by decide +kernel
theorem dX5_best_40 : decode cX5_best 40 = .ok (.iconst 0, 1) := by decide +kernel
theorem dX5_best_41 : decode cX5_best 41 = .ok (.invokevirtual 234, 3) := by decide +kernel
theorem dX5_best_44 : decode cX5_best 44 = .ok (.ireturn, 1) := by decide +kernel
theorem dX5_best_45 : decode cX5_best 45 = .ok (.bipush (-2), 2) := by decide +kernel
theorem dX5_best_47 : decode cX5_best 47 = .ok (.ireturn, 1) := by decide +kernel
theorem dX5_judge_0 : decode cX5_judge 0 = .ok (.iload_n 1, 1) := by decide +kernel
theorem dX5_judge_1 : decode cX5_judge 1 = .ok (.iconst 1, 1) := by decide +kernel
theorem dX5_judge_2 : decode cX5_judge 2 = .ok (.if_icmp .lt 24, 3) := by decide +kernel
theorem dX5_judge_5 : decode cX5_judge 5 = .ok (.iload_n 1, 1) := by decide +kernel
theorem dX5_judge_6 : decode cX5_judge 6 = .ok (.iconst 3, 1) := by decide +kernel
theorem dX5_judge_7 : decode cX5_judge 7 = .ok (.if_icmp .gt 19, 3) := by decide +kernel
theorem dX5_judge_10 : decode cX5_judge 10 = .ok (.lload_n 2, 1) := by decide +kernel
theorem dX5_judge_11 : decode cX5_judge 11 = .ok (.lconst 0, 1) := by decide +kernel
theorem dX5_judge_12 : decode cX5_judge 12 = .ok (.lcmp, 1) := by decide +kernel
theorem dX5_judge_13 : decode cX5_judge 13 = .ok (.ifCond .lt 13, 3) := by decide +kernel
theorem dX5_judge_16 : decode cX5_judge 16 = .ok (.lload_n 2, 1) := by decide +kernel
theorem dX5_judge_17 : decode cX5_judge 17 = .ok (.getstatic 238, 3) := by decide +kernel
theorem dX5_judge_20 : decode cX5_judge 20 = .ok (.iload_n 1, 1) := by decide +kernel
theorem dX5_judge_21 : decode cX5_judge 21 = .ok (.laload, 1) := by decide +kernel
theorem dX5_judge_22 : decode cX5_judge 22 = .ok (.lcmp, 1) := by decide +kernel
theorem dX5_judge_23 : decode cX5_judge 23 = .ok (.ifCond .lt 6, 3) := by decide +kernel
theorem dX5_judge_26 : decode cX5_judge 26 = .ok (.bipush (-2), 2) := by decide +kernel
theorem dX5_judge_28 : decode cX5_judge 28 = .ok (.ireturn, 1) := by decide +kernel
theorem dX5_judge_29 : decode cX5_judge 29 = .ok (.aload_n 0, 1) := by decide +kernel
theorem dX5_judge_30 : decode cX5_judge 30 = .ok (.getfield 23, 3) := by decide +kernel
theorem dX5_judge_33 : decode cX5_judge 33 = .ok (.aload_n 0, 1) := by decide +kernel
theorem dX5_judge_34 : decode cX5_judge 34 = .ok (.getfield 19, 3) := by decide +kernel
theorem dX5_judge_37 : decode cX5_judge 37 = .ok (.invokevirtual 242, 3) := by decide +kernel
theorem dX5_judge_40 : decode cX5_judge 40 = .ok (.iconst 0, 1) := by decide +kernel
theorem dX5_judge_41 : decode cX5_judge 41 = .ok (.istore 4, 2) := by decide +kernel
theorem dX5_judge_43 : decode cX5_judge 43 = .ok (.iload 4, 2) := by decide +kernel
theorem dX5_judge_45 : decode cX5_judge 45 = .ok (.iload_n 1, 1) := by decide +kernel
theorem dX5_judge_46 : decode cX5_judge 46 = .ok (.if_icmp .ge 40, 3) := by decide +kernel
theorem dX5_judge_49 : decode cX5_judge 49 = .ok (.lload_n 2, 1) := by decide +kernel
theorem dX5_judge_50 : decode cX5_judge 50 = .ok (.getstatic 238, 3) := by decide +kernel
theorem dX5_judge_53 : decode cX5_judge 53 = .ok (.iload_n 1, 1) := by decide +kernel
theorem dX5_judge_54 : decode cX5_judge 54 = .ok (.iconst 1, 1) := by decide +kernel
theorem dX5_judge_55 : decode cX5_judge 55 = .ok (.isub, 1) := by decide +kernel
theorem dX5_judge_56 : decode cX5_judge 56 = .ok (.iload 4, 2) := by decide +kernel
theorem dX5_judge_58 : decode cX5_judge 58 = .ok (.isub, 1) := by decide +kernel
theorem dX5_judge_59 : decode cX5_judge 59 = .ok (.laload, 1) := by decide +kernel
theorem dX5_judge_60 : decode cX5_judge 60 = .ok (.ldiv, 1) := by decide +kernel
theorem dX5_judge_61 : decode cX5_judge 61 = .ok (.ldc2_w 246, 3) := by decide +kernel
theorem dX5_judge_64 : decode cX5_judge 64 = .ok (.lrem, 1) := by decide +kernel
theorem dX5_judge_65 : decode cX5_judge 65 = .ok (.l2i, 1) := by decide +kernel
theorem dX5_judge_66 : decode cX5_judge 66 = .ok (.istore 5, 2) := by decide +kernel
theorem dX5_judge_68 : decode cX5_judge 68 = .ok (.aload_n 0, 1) := by decide +kernel
theorem dX5_judge_69 : decode cX5_judge 69 = .ok (.iload 5, 2) := by decide +kernel
theorem dX5_judge_71 : decode cX5_judge 71 = .ok (.invokevirtual 248, 3) := by decide +kernel
theorem dX5_judge_74 : decode cX5_judge 74 = .ok (.ifCond .ne 6, 3) := by decide +kernel
theorem dX5_judge_77 : decode cX5_judge 77 = .ok (.iload 4, 2) := by decide +kernel
theorem dX5_judge_79 : decode cX5_judge 79 = .ok (.ireturn, 1) := by decide +kernel
theorem dX5_judge_80 : decode cX5_judge 80 = .ok (.iinc 4 1, 3) := by decide +kernel
theorem dX5_judge_83 : decode cX5_judge 83 = .ok (.goto (-40), 3) := by decide +kernel
theorem dX5_judge_86 : decode cX5_judge 86 = .ok (.bipush (-9), 2) := by decide +kernel
theorem dX5_judge_88 : decode cX5_judge 88 = .ok (.ireturn, 1) := by decide +kernel
theorem dX5_share_0 : decode cX5_share 0 = .ok (.aload_n 0, 1) := by decide +kernel
theorem dX5_share_1 : decode cX5_share 1 = .ok (.getfield 19, 3) := by decide +kernel
theorem dX5_share_4 : decode cX5_share 4 = .ok (.iload_n 1, 1) := by decide +kernel
theorem dX5_share_5 : decode cX5_share 5 = .ok (.invokevirtual 251, 3) := by decide +kernel
theorem dX5_share_8 : decode cX5_share 8 = .ok (.ifCond .ne 5, 3) := by decide +kernel
theorem dX5_share_11 : decode cX5_share 11 = .ok (.iconst (-1), 1) := by decide +kernel
theorem dX5_share_12 : decode cX5_share 12 = .ok (.ireturn, 1) := by decide +kernel
theorem dX5_share_13 : decode cX5_share 13 = .ok (.aload_n 0, 1) := by decide +kernel
theorem dX5_share_14 : decode cX5_share 14 = .ok (.getfield 19, 3) := by decide +kernel
theorem dX5_share_17 : decode cX5_share 17 = .ok (.getfield 93, 3) := by decide +kernel
theorem dX5_share_20 : decode cX5_share 20 = .ok (.istore_n 3, 1) := by decide +kernel
theorem dX5_share_21 : decode cX5_share 21 = .ok (.iconst 0, 1) := by decide +kernel
theorem dX5_share_22 : decode cX5_share 22 = .ok (.istore 4, 2) := by decide +kernel
theorem dX5_share_24 : decode cX5_share 24 = .ok (.iload 4, 2) := by decide +kernel
theorem dX5_share_26 : decode cX5_share 26 = .ok (.iconst 1, 1) := by decide +kernel
theorem dX5_share_27 : decode cX5_share 27 = .ok (.iload_n 3, 1) := by decide +kernel
theorem dX5_share_28 : decode cX5_share 28 = .ok (.ishl, 1) := by decide +kernel
theorem dX5_share_29 : decode cX5_share 29 = .ok (.if_icmp .ge 32, 3) := by decide +kernel
theorem dX5_share_32 : decode cX5_share 32 = .ok (.iload 4, 2) := by decide +kernel
theorem dX5_share_34 : decode cX5_share 34 = .ok (.aload_n 0, 1) := by decide +kernel
theorem dX5_share_35 : decode cX5_share 35 = .ok (.getfield 53, 3) := by decide +kernel
theorem dX5_share_38 : decode cX5_share 38 = .ok (.arraylength, 1) := by decide +kernel
theorem dX5_share_39 : decode cX5_share 39 = .ok (.if_icmp .ge 22, 3) := by decide +kernel
theorem dX5_share_42 : decode cX5_share 42 = .ok (.aload_n 0, 1) := by decide +kernel
theorem dX5_share_43 : decode cX5_share 43 = .ok (.getfield 53, 3) := by decide +kernel
theorem dX5_share_46 : decode cX5_share 46 = .ok (.iload 4, 2) := by decide +kernel
theorem dX5_share_48 : decode cX5_share 48 = .ok (.aload_n 0, 1) := by decide +kernel
theorem dX5_share_49 : decode cX5_share 49 = .ok (.iload 4, 2) := by decide +kernel
theorem dX5_share_51 : decode cX5_share 51 = .ok (.invokevirtual 254, 3) := by decide +kernel
theorem dX5_share_54 : decode cX5_share 54 = .ok (.iastore, 1) := by decide +kernel
theorem dX5_share_55 : decode cX5_share 55 = .ok (.iinc 4 1, 3) := by decide +kernel
theorem dX5_share_58 : decode cX5_share 58 = .ok (.goto (-34), 3) := by decide +kernel
theorem dX5_share_61 : decode cX5_share 61 = .ok (.iconst 0, 1) := by decide +kernel
theorem dX5_share_62 : decode cX5_share 62 = .ok (.istore 4, 2) := by decide +kernel
theorem dX5_share_64 : decode cX5_share 64 = .ok (.iconst 0, 1) := by decide +kernel
theorem dX5_share_65 : decode cX5_share 65 = .ok (.istore 5, 2) := by decide +kernel
theorem dX5_share_67 : decode cX5_share 67 = .ok (.iload 5, 2) := by decide +kernel
theorem dX5_share_69 : decode cX5_share 69 = .ok (.iconst 1, 1) := by decide +kernel
theorem dX5_share_70 : decode cX5_share 70 = .ok (.iload_n 3, 1) := by decide +kernel
theorem dX5_share_71 : decode cX5_share 71 = .ok (.ishl, 1) := by decide +kernel
theorem dX5_share_72 : decode cX5_share 72 = .ok (.if_icmp .ge 71, 3) := by decide +kernel
theorem dX5_share_75 : decode cX5_share 75 = .ok (.iload 5, 2) := by decide +kernel
theorem dX5_share_77 : decode cX5_share 77 = .ok (.aload_n 0, 1) := by decide +kernel
theorem dX5_share_78 : decode cX5_share 78 = .ok (.getfield 53, 3) := by decide +kernel
theorem dX5_share_81 : decode cX5_share 81 = .ok (.arraylength, 1) := by decide +kernel
theorem dX5_share_82 : decode cX5_share 82 = .ok (.if_icmp .ge 61, 3) := by decide +kernel
theorem dX5_share_85 : decode cX5_share 85 = .ok (.iload 5, 2) := by decide +kernel
theorem dX5_share_87 : decode cX5_share 87 = .ok (.iconst 1, 1) := by decide +kernel
theorem dX5_share_88 : decode cX5_share 88 = .ok (.iload_n 1, 1) := by decide +kernel
theorem dX5_share_89 : decode cX5_share 89 = .ok (.ishl, 1) := by decide +kernel
theorem dX5_share_90 : decode cX5_share 90 = .ok (.ior, 1) := by decide +kernel
theorem dX5_share_91 : decode cX5_share 91 = .ok (.istore 6, 2) := by decide +kernel
theorem dX5_share_93 : decode cX5_share 93 = .ok (.iload 6, 2) := by decide +kernel
theorem dX5_share_95 : decode cX5_share 95 = .ok (.iload 5, 2) := by decide +kernel
theorem dX5_share_97 : decode cX5_share 97 = .ok (.if_icmp .eq 40, 3) := by decide +kernel
theorem dX5_share_100 : decode cX5_share 100 = .ok (.iload 6, 2) := by decide +kernel
theorem dX5_share_102 : decode cX5_share 102 = .ok (.aload_n 0, 1) := by decide +kernel
theorem dX5_share_103 : decode cX5_share 103 = .ok (.getfield 53, 3) := by decide +kernel
theorem dX5_share_106 : decode cX5_share 106 = .ok (.arraylength, 1) := by decide +kernel
theorem dX5_share_107 : decode cX5_share 107 = .ok (.if_icmp .ge 30, 3) := by decide +kernel
theorem dX5_share_110 : decode cX5_share 110 = .ok (.iload 4, 2) := by decide +kernel
theorem dX5_share_112 : decode cX5_share 112 = .ok (.iload 5, 2) := by decide +kernel
theorem dX5_share_114 : decode cX5_share 114 = .ok (.iload_n 3, 1) := by decide +kernel
theorem dX5_share_115 : decode cX5_share 115 = .ok (.invokestatic 257, 3) := by decide +kernel
theorem dX5_share_118 : decode cX5_share 118 = .ok (.aload_n 0, 1) := by decide +kernel
theorem dX5_share_119 : decode cX5_share 119 = .ok (.getfield 53, 3) := by decide +kernel
theorem dX5_share_122 : decode cX5_share 122 = .ok (.iload 6, 2) := by decide +kernel
theorem dX5_share_124 : decode cX5_share 124 = .ok (.iaload, 1) := by decide +kernel
theorem dX5_share_125 : decode cX5_share 125 = .ok (.aload_n 0, 1) := by decide +kernel
theorem dX5_share_126 : decode cX5_share 126 = .ok (.getfield 53, 3) := by decide +kernel
theorem dX5_share_129 : decode cX5_share 129 = .ok (.iload 5, 2) := by decide +kernel
theorem dX5_share_131 : decode cX5_share 131 = .ok (.iaload, 1) := by decide +kernel
theorem dX5_share_132 : decode cX5_share 132 = .ok (.isub, 1) := by decide +kernel
theorem dX5_share_133 : decode cX5_share 133 = .ok (.imul, 1) := by decide +kernel
theorem dX5_share_134 : decode cX5_share 134 = .ok (.iadd, 1) := by decide +kernel
theorem dX5_share_135 : decode cX5_share 135 = .ok (.istore 4, 2) := by decide +kernel
theorem dX5_share_137 : decode cX5_share 137 = .ok (.iinc 5 1, 3) := by decide +kernel
theorem dX5_share_140 : decode cX5_share 140 = .ok (.goto (-73), 3) := by decide +kernel
theorem dX5_share_143 : decode cX5_share 143 = .ok (.iload 4, 2) := by decide +kernel
theorem dX5_share_145 : decode cX5_share 145 = .ok (.iload_n 3, 1) := by decide +kernel
theorem dX5_share_146 : decode cX5_share 146 = .ok (.invokestatic 260, 3) := by decide +kernel
theorem dX5_share_149 : decode cX5_share 149 = .ok (.iload_n 2, 1) := by decide +kernel
theorem dX5_share_150 : decode cX5_share 150 = .ok (.invokestatic 156, 3) := by decide +kernel
theorem dX5_share_153 : decode cX5_share 153 = .ok (.ireturn, 1) := by decide +kernel
theorem dX5_see_0 : decode cX5_see 0 = .ok (.aload_n 0, 1) := by decide +kernel
theorem dX5_see_1 : decode cX5_see 1 = .ok (.getfield 19, 3) := by decide +kernel
theorem dX5_see_4 : decode cX5_see 4 = .ok (.iload_n 1, 1) := by decide +kernel
theorem dX5_see_5 : decode cX5_see 5 = .ok (.invokevirtual 131, 3) := by decide +kernel
theorem dX5_see_8 : decode cX5_see 8 = .ok (.ifCond .ne 5, 3) := by decide +kernel
theorem dX5_see_11 : decode cX5_see 11 = .ok (.iconst (-1), 1) := by decide +kernel
theorem dX5_see_12 : decode cX5_see 12 = .ok (.ireturn, 1) := by decide +kernel
theorem dX5_see_13 : decode cX5_see 13 = .ok (.iload_n 2, 1) := by decide +kernel
theorem dX5_see_14 : decode cX5_see 14 = .ok (.ifCond .eq 11, 3) := by decide +kernel
theorem dX5_see_17 : decode cX5_see 17 = .ok (.iload_n 2, 1) := by decide +kernel
theorem dX5_see_18 : decode cX5_see 18 = .ok (.iconst 1, 1) := by decide +kernel
theorem dX5_see_19 : decode cX5_see 19 = .ok (.if_icmp .eq 6, 3) := by decide +kernel
theorem dX5_see_22 : decode cX5_see 22 = .ok (.bipush (-2), 2) := by decide +kernel
theorem dX5_see_24 : decode cX5_see 24 = .ok (.ireturn, 1) := by decide +kernel
theorem dX5_see_25 : decode cX5_see 25 = .ok (.aload_n 0, 1) := by decide +kernel
theorem dX5_see_26 : decode cX5_see 26 = .ok (.getfield 49, 3) := by decide +kernel
theorem dX5_see_29 : decode cX5_see 29 = .ok (.invokevirtual 263, 3) := by decide +kernel
theorem dX5_see_32 : decode cX5_see 32 = .ok (.ifCond .eq 6, 3) := by decide +kernel
theorem dX5_see_35 : decode cX5_see 35 = .ok (.bipush (-4), 2) := by decide +kernel
theorem dX5_see_37 : decode cX5_see 37 = .ok (.ireturn, 1) := by decide +kernel
theorem dX5_see_38 : decode cX5_see 38 = .ok (.aload_n 0, 1) := by decide +kernel
theorem dX5_see_39 : decode cX5_see 39 = .ok (.getfield 49, 3) := by decide +kernel
theorem dX5_see_42 : decode cX5_see 42 = .ok (.iload_n 1, 1) := by decide +kernel
theorem dX5_see_43 : decode cX5_see 43 = .ok (.iload_n 2, 1) := by decide +kernel
theorem dX5_see_44 : decode cX5_see 44 = .ok (.invokevirtual 264, 3) := by decide +kernel
theorem dX5_see_47 : decode cX5_see 47 = .ok (.ireturn, 1) := by decide +kernel
theorem dX5_unsee_0 : decode cX5_unsee 0 = .ok (.aload_n 0, 1) := by decide +kernel
theorem dX5_unsee_1 : decode cX5_unsee 1 = .ok (.getfield 49, 3) := by decide +kernel
theorem dX5_unsee_4 : decode cX5_unsee 4 = .ok (.invokevirtual 266, 3) := by decide +kernel
theorem dX5_unsee_7 : decode cX5_unsee 7 = .ok (.ireturn, 1) := by decide +kernel
theorem dX5_ways_0 : decode cX5_ways 0 = .ok (.iload_n 1, 1) := by decide +kernel
theorem dX5_ways_1 : decode cX5_ways 1 = .ok (.ifCond .eq 11, 3) := by decide +kernel
theorem dX5_ways_4 : decode cX5_ways 4 = .ok (.iload_n 1, 1) := by decide +kernel
theorem dX5_ways_5 : decode cX5_ways 5 = .ok (.iconst 1, 1) := by decide +kernel
theorem dX5_ways_6 : decode cX5_ways 6 = .ok (.if_icmp .eq 6, 3) := by decide +kernel
theorem dX5_ways_9 : decode cX5_ways 9 = .ok (.bipush (-2), 2) := by decide +kernel
theorem dX5_ways_11 : decode cX5_ways 11 = .ok (.ireturn, 1) := by decide +kernel
theorem dX5_ways_12 : decode cX5_ways 12 = .ok (.bipush (-9), 2) := by decide +kernel
theorem dX5_ways_14 : decode cX5_ways 14 = .ok (.istore_n 2, 1) := by decide +kernel
theorem dX5_ways_15 : decode cX5_ways 15 = .ok (.iconst 0, 1) := by decide +kernel
theorem dX5_ways_16 : decode cX5_ways 16 = .ok (.istore_n 3, 1) := by decide +kernel
theorem dX5_ways_17 : decode cX5_ways 17 = .ok (.iconst 0, 1) := by decide +kernel
theorem dX5_ways_18 : decode cX5_ways 18 = .ok (.istore 4, 2) := by decide +kernel
theorem dX5_ways_20 : decode cX5_ways 20 = .ok (.iload 4, 2) := by decide +kernel
theorem dX5_ways_22 : decode cX5_ways 22 = .ok (.iconst 3, 1) := by decide +kernel
theorem dX5_ways_23 : decode cX5_ways 23 = .ok (.if_icmp .ge 77, 3) := by decide +kernel
theorem dX5_ways_26 : decode cX5_ways 26 = .ok (.aload_n 0, 1) := by decide +kernel
theorem dX5_ways_27 : decode cX5_ways 27 = .ok (.getfield 35, 3) := by decide +kernel
theorem dX5_ways_30 : decode cX5_ways 30 = .ok (.aload_n 0, 1) := by decide +kernel
theorem dX5_ways_31 : decode cX5_ways 31 = .ok (.getfield 19, 3) := by decide +kernel
theorem dX5_ways_34 : decode cX5_ways 34 = .ok (.iload 4, 2) := by decide +kernel
theorem dX5_ways_36 : decode cX5_ways 36 = .ok (.invokevirtual 170, 3) := by decide +kernel
theorem dX5_ways_39 : decode cX5_ways 39 = .ok (.iconst 0, 1) := by decide +kernel
theorem dX5_ways_40 : decode cX5_ways 40 = .ok (.istore 5, 2) := by decide +kernel
theorem dX5_ways_42 : decode cX5_ways 42 = .ok (.iload 5, 2) := by decide +kernel
theorem dX5_ways_44 : decode cX5_ways 44 = .ok (.bipush 10, 2) := by decide +kernel
theorem dX5_ways_46 : decode cX5_ways 46 = .ok (.if_icmp .ge 48, 3) := by decide +kernel
theorem dX5_ways_49 : decode cX5_ways 49 = .ok (.aload_n 0, 1) := by decide +kernel
theorem dX5_ways_50 : decode cX5_ways 50 = .ok (.getfield 49, 3) := by decide +kernel
theorem dX5_ways_53 : decode cX5_ways 53 = .ok (.aload_n 0, 1) := by decide +kernel
theorem dX5_ways_54 : decode cX5_ways 54 = .ok (.getfield 35, 3) := by decide +kernel
theorem dX5_ways_57 : decode cX5_ways 57 = .ok (.iload 5, 2) := by decide +kernel
theorem dX5_ways_59 : decode cX5_ways 59 = .ok (.iconst 2, 1) := by decide +kernel
theorem dX5_ways_60 : decode cX5_ways 60 = .ok (.invokevirtual 174, 3) := by decide +kernel
theorem dX5_ways_63 : decode cX5_ways 63 = .ok (.invokevirtual 267, 3) := by decide +kernel
theorem dX5_ways_66 : decode cX5_ways 66 = .ok (.ifCond .eq 22, 3) := by decide +kernel
theorem dX5_ways_69 : decode cX5_ways 69 = .ok (.iload_n 3, 1) := by decide +kernel
theorem dX5_ways_70 : decode cX5_ways 70 = .ok (.ifCond .ne 13, 3) := by decide +kernel
theorem dX5_ways_73 : decode cX5_ways 73 = .ok (.iload 4, 2) := by decide +kernel
theorem dX5_ways_75 : decode cX5_ways 75 = .ok (.iload 5, 2) := by decide +kernel
theorem dX5_ways_77 : decode cX5_ways 77 = .ok (.invokestatic 270, 3) := by decide +kernel
theorem dX5_ways_80 : decode cX5_ways 80 = .ok (.goto 4, 3) := by decide +kernel
theorem dX5_ways_83 : decode cX5_ways 83 = .ok (.iload_n 2, 1) := by decide +kernel
theorem dX5_ways_84 : decode cX5_ways 84 = .ok (.istore_n 2, 1) := by decide +kernel
theorem dX5_ways_85 : decode cX5_ways 85 = .ok (.iinc 3 1, 3) := by decide +kernel
theorem dX5_ways_88 : decode cX5_ways 88 = .ok (.iinc 5 1, 3) := by decide +kernel
theorem dX5_ways_91 : decode cX5_ways 91 = .ok (.goto (-49), 3) := by decide +kernel
theorem dX5_ways_94 : decode cX5_ways 94 = .ok (.iinc 4 1, 3) := by decide +kernel
theorem dX5_ways_97 : decode cX5_ways 97 = .ok (.goto (-77), 3) := by decide +kernel
theorem dX5_ways_100 : decode cX5_ways 100 = .ok (.iload_n 1, 1) := by decide +kernel
theorem dX5_ways_101 : decode cX5_ways 101 = .ok (.ifCond .ne 7, 3) := by decide +kernel
theorem dX5_ways_104 : decode cX5_ways 104 = .ok (.iload_n 3, 1) := by decide +kernel
theorem dX5_ways_105 : decode cX5_ways 105 = .ok (.goto 4, 3) := by decide +kernel
theorem dX5_ways_108 : decode cX5_ways 108 = .ok (.iload_n 2, 1) := by decide +kernel
theorem dX5_ways_109 : decode cX5_ways 109 = .ok (.ireturn, 1) := by decide +kernel
theorem dX5_bleached_0 : decode cX5_bleached 0 = .ok (.aload_n 0, 1) := by decide +kernel
theorem dX5_bleached_1 : decode cX5_bleached 1 = .ok (.getfield 19, 3) := by decide +kernel
theorem dX5_bleached_4 : decode cX5_bleached 4 = .ok (.iload_n 1, 1) := by decide +kernel
theorem dX5_bleached_5 : decode cX5_bleached 5 = .ok (.invokevirtual 251, 3) := by decide +kernel
theorem dX5_bleached_8 : decode cX5_bleached 8 = .ok (.ifCond .ne 5, 3) := by decide +kernel
theorem dX5_bleached_11 : decode cX5_bleached 11 = .ok (.iconst (-1), 1) := by decide +kernel
theorem dX5_bleached_12 : decode cX5_bleached 12 = .ok (.ireturn, 1) := by decide +kernel
theorem dX5_bleached_13 : decode cX5_bleached 13 = .ok (.iload_n 2, 1) := by decide +kernel
theorem dX5_bleached_14 : decode cX5_bleached 14 = .ok (.ifCond .lt 19, 3) := by decide +kernel
theorem dX5_bleached_17 : decode cX5_bleached 17 = .ok (.iload_n 2, 1) := by decide +kernel
theorem dX5_bleached_18 : decode cX5_bleached 18 = .ok (.bipush 25, 2) := by decide +kernel
theorem dX5_bleached_20 : decode cX5_bleached 20 = .ok (.if_icmp .gt 13, 3) := by decide +kernel
theorem dX5_bleached_23 : decode cX5_bleached 23 = .ok (.iload_n 3, 1) := by decide +kernel
theorem dX5_bleached_24 : decode cX5_bleached 24 = .ok (.ifCond .lt 9, 3) := by decide +kernel
theorem dX5_bleached_27 : decode cX5_bleached 27 = .ok (.iload_n 3, 1) := by decide +kernel
theorem dX5_bleached_28 : decode cX5_bleached 28 = .ok (.bipush 10, 2) := by decide +kernel
theorem dX5_bleached_30 : decode cX5_bleached 30 = .ok (.if_icmp .le 6, 3) := by decide +kernel
theorem dX5_bleached_33 : decode cX5_bleached 33 = .ok (.bipush (-2), 2) := by decide +kernel
theorem dX5_bleached_35 : decode cX5_bleached 35 = .ok (.ireturn, 1) := by decide +kernel
theorem dX5_bleached_36 : decode cX5_bleached 36 = .ok (.aload_n 0, 1) := by decide +kernel
theorem dX5_bleached_37 : decode cX5_bleached 37 = .ok (.getfield 19, 3) := by decide +kernel
theorem dX5_bleached_40 : decode cX5_bleached 40 = .ok (.getfield 90, 3) := by decide +kernel
theorem dX5_bleached_43 : decode cX5_bleached 43 = .ok (.istore 5, 2) := by decide +kernel
theorem dX5_bleached_45 : decode cX5_bleached 45 = .ok (.iconst 0, 1) := by decide +kernel
theorem dX5_bleached_46 : decode cX5_bleached 46 = .ok (.istore 6, 2) := by decide +kernel
theorem dX5_bleached_48 : decode cX5_bleached 48 = .ok (.iconst 0, 1) := by decide +kernel
theorem dX5_bleached_49 : decode cX5_bleached 49 = .ok (.istore 7, 2) := by decide +kernel
theorem dX5_bleached_51 : decode cX5_bleached 51 = .ok (.iload 7, 2) := by decide +kernel
theorem dX5_bleached_53 : decode cX5_bleached 53 = .ok (.iconst 1, 1) := by decide +kernel
theorem dX5_bleached_54 : decode cX5_bleached 54 = .ok (.iload 5, 2) := by decide +kernel
theorem dX5_bleached_56 : decode cX5_bleached 56 = .ok (.ishl, 1) := by decide +kernel
theorem dX5_bleached_57 : decode cX5_bleached 57 = .ok (.if_icmp .ge 51, 3) := by decide +kernel
theorem dX5_bleached_60 : decode cX5_bleached 60 = .ok (.aload_n 0, 1) := by decide +kernel
theorem dX5_bleached_61 : decode cX5_bleached 61 = .ok (.iload_n 1, 1) := by decide +kernel
theorem dX5_bleached_62 : decode cX5_bleached 62 = .ok (.iload 7, 2) := by decide +kernel
theorem dX5_bleached_64 : decode cX5_bleached 64 = .ok (.invokevirtual 273, 3) := by decide +kernel
theorem dX5_bleached_67 : decode cX5_bleached 67 = .ok (.iload_n 2, 1) := by decide +kernel
theorem dX5_bleached_68 : decode cX5_bleached 68 = .ok (.if_icmp .lt 34, 3) := by decide +kernel
theorem dX5_bleached_71 : decode cX5_bleached 71 = .ok (.iload 7, 2) := by decide +kernel
theorem dX5_bleached_73 : decode cX5_bleached 73 = .ok (.invokestatic 180, 3) := by decide +kernel
theorem dX5_bleached_76 : decode cX5_bleached 76 = .ok (.istore 8, 2) := by decide +kernel
theorem dX5_bleached_78 : decode cX5_bleached 78 = .ok (.iload 6, 2) := by decide +kernel
theorem dX5_bleached_80 : decode cX5_bleached 80 = .ok (.iload_n 3, 1) := by decide +kernel
theorem dX5_bleached_81 : decode cX5_bleached 81 = .ok (.iload 8, 2) := by decide +kernel
theorem dX5_bleached_83 : decode cX5_bleached 83 = .ok (.invokestatic 276, 3) := by decide +kernel
theorem dX5_bleached_86 : decode cX5_bleached 86 = .ok (.bipush 10, 2) := by decide +kernel
theorem dX5_bleached_88 : decode cX5_bleached 88 = .ok (.iload_n 3, 1) := by decide +kernel
theorem dX5_bleached_89 : decode cX5_bleached 89 = .ok (.isub, 1) := by decide +kernel
theorem dX5_bleached_90 : decode cX5_bleached 90 = .ok (.iload 5, 2) := by decide +kernel
theorem dX5_bleached_92 : decode cX5_bleached 92 = .ok (.iload 8, 2) := by decide +kernel
theorem dX5_bleached_94 : decode cX5_bleached 94 = .ok (.isub, 1) := by decide +kernel
theorem dX5_bleached_95 : decode cX5_bleached 95 = .ok (.invokestatic 276, 3) := by decide +kernel
theorem dX5_bleached_98 : decode cX5_bleached 98 = .ok (.imul, 1) := by decide +kernel
theorem dX5_bleached_99 : decode cX5_bleached 99 = .ok (.iadd, 1) := by decide +kernel
theorem dX5_bleached_100 : decode cX5_bleached 100 = .ok (.istore 6, 2) := by decide +kernel
theorem dX5_bleached_102 : decode cX5_bleached 102 = .ok (.iinc 7 1, 3) := by decide +kernel
theorem dX5_bleached_105 : decode cX5_bleached 105 = .ok (.goto (-54), 3) := by decide +kernel
theorem dX5_bleached_108 : decode cX5_bleached 108 = .ok (.iload 6, 2) := by decide +kernel
theorem dX5_bleached_110 : decode cX5_bleached 110 = .ok (.bipush 10, 2) := by decide +kernel
theorem dX5_bleached_112 : decode cX5_bleached 112 = .ok (.iload 5, 2) := by decide +kernel
theorem dX5_bleached_114 : decode cX5_bleached 114 = .ok (.invokestatic 276, 3) := by decide +kernel
theorem dX5_bleached_117 : decode cX5_bleached 117 = .ok (.iload 4, 2) := by decide +kernel
theorem dX5_bleached_119 : decode cX5_bleached 119 = .ok (.invokestatic 156, 3) := by decide +kernel
theorem dX5_bleached_122 : decode cX5_bleached 122 = .ok (.ireturn, 1) := by decide +kernel
theorem dX5_seed_0 : decode cX5_seed 0 = .ok (.aload_n 0, 1) := by decide +kernel
theorem dX5_seed_1 : decode cX5_seed 1 = .ok (.getfield 61, 3) := by decide +kernel
theorem dX5_seed_4 : decode cX5_seed 4 = .ok (.lstore_n 3, 1) := by decide +kernel
theorem dX5_seed_5 : decode cX5_seed 5 = .ok (.aload_n 0, 1) := by decide +kernel
theorem dX5_seed_6 : decode cX5_seed 6 = .ok (.lload_n 1, 1) := by decide +kernel
theorem dX5_seed_7 : decode cX5_seed 7 = .ok (.putfield 61, 3) := by decide +kernel
theorem dX5_seed_10 : decode cX5_seed 10 = .ok (.lload_n 3, 1) := by decide +kernel
theorem dX5_seed_11 : decode cX5_seed 11 = .ok (.lreturn, 1) := by decide +kernel
theorem dX5_drawn_0 : decode cX5_drawn 0 = .ok (.iload_n 1, 1) := by decide +kernel
theorem dX5_drawn_1 : decode cX5_drawn 1 = .ok (.iconst 1, 1) := by decide +kernel
theorem dX5_drawn_2 : decode cX5_drawn 2 = .ok (.if_icmp .lt 9, 3) := by decide +kernel
theorem dX5_drawn_5 : decode cX5_drawn 5 = .ok (.iload_n 1, 1) := by decide +kernel
theorem dX5_drawn_6 : decode cX5_drawn 6 = .ok (.bipush 20, 2) := by decide +kernel
theorem dX5_drawn_8 : decode cX5_drawn 8 = .ok (.if_icmp .le 6, 3) := by decide +kernel
theorem dX5_drawn_11 : decode cX5_drawn 11 = .ok (.bipush (-2), 2) := by decide +kernel
theorem dX5_drawn_13 : decode cX5_drawn 13 = .ok (.ireturn, 1) := by decide +kernel
theorem dX5_drawn_14 : decode cX5_drawn 14 = .ok (.aload_n 0, 1) := by decide +kernel
theorem dX5_drawn_15 : decode cX5_drawn 15 = .ok (.getfield 23, 3) := by decide +kernel
theorem dX5_drawn_18 : decode cX5_drawn 18 = .ok (.aload_n 0, 1) := by decide +kernel
theorem dX5_drawn_19 : decode cX5_drawn 19 = .ok (.getfield 19, 3) := by decide +kernel
theorem dX5_drawn_22 : decode cX5_drawn 22 = .ok (.invokevirtual 242, 3) := by decide +kernel
theorem dX5_drawn_25 : decode cX5_drawn 25 = .ok (.iconst 0, 1) := by decide +kernel
theorem dX5_drawn_26 : decode cX5_drawn 26 = .ok (.istore_n 2, 1) := by decide +kernel
theorem dX5_drawn_27 : decode cX5_drawn 27 = .ok (.iconst 0, 1) := by decide +kernel
theorem dX5_drawn_28 : decode cX5_drawn 28 = .ok (.istore_n 3, 1) := by decide +kernel
theorem dX5_drawn_29 : decode cX5_drawn 29 = .ok (.iload_n 3, 1) := by decide +kernel
theorem dX5_drawn_30 : decode cX5_drawn 30 = .ok (.iload_n 1, 1) := by decide +kernel
theorem dX5_drawn_31 : decode cX5_drawn 31 = .ok (.if_icmp .ge 78, 3) := by decide +kernel
theorem dX5_drawn_34 : decode cX5_drawn 34 = .ok (.aload_n 0, 1) := by decide +kernel
theorem dX5_drawn_35 : decode cX5_drawn 35 = .ok (.aload_n 0, 1) := by decide +kernel
theorem dX5_drawn_36 : decode cX5_drawn 36 = .ok (.getfield 61, 3) := by decide +kernel
theorem dX5_drawn_39 : decode cX5_drawn 39 = .ok (.ldc2_w 279, 3) := by decide +kernel
theorem dX5_drawn_42 : decode cX5_drawn 42 = .ok (.lmul, 1) := by decide +kernel
theorem dX5_drawn_43 : decode cX5_drawn 43 = .ok (.ldc2_w 281, 3) := by decide +kernel
theorem dX5_drawn_46 : decode cX5_drawn 46 = .ok (.ladd, 1) := by decide +kernel
theorem dX5_drawn_47 : decode cX5_drawn 47 = .ok (.putfield 61, 3) := by decide +kernel
theorem dX5_drawn_50 : decode cX5_drawn 50 = .ok (.aload_n 0, 1) := by decide +kernel
theorem dX5_drawn_51 : decode cX5_drawn 51 = .ok (.getfield 61, 3) := by decide +kernel
theorem dX5_drawn_54 : decode cX5_drawn 54 = .ok (.bipush 33, 2) := by decide +kernel
theorem dX5_drawn_56 : decode cX5_drawn 56 = .ok (.lushr, 1) := by decide +kernel
theorem dX5_drawn_57 : decode cX5_drawn 57 = .ok (.l2i, 1) := by decide +kernel
theorem dX5_drawn_58 : decode cX5_drawn 58 = .ok (.istore 4, 2) := by decide +kernel
theorem dX5_drawn_60 : decode cX5_drawn 60 = .ok (.aload_n 0, 1) := by decide +kernel
theorem dX5_drawn_61 : decode cX5_drawn 61 = .ok (.getfield 23, 3) := by decide +kernel
theorem dX5_drawn_64 : decode cX5_drawn 64 = .ok (.iconst 0, 1) := by decide +kernel
theorem dX5_drawn_65 : decode cX5_drawn 65 = .ok (.iload 4, 2) := by decide +kernel
theorem dX5_drawn_67 : decode cX5_drawn 67 = .ok (.aload_n 0, 1) := by decide +kernel
theorem dX5_drawn_68 : decode cX5_drawn 68 = .ok (.getfield 23, 3) := by decide +kernel
theorem dX5_drawn_71 : decode cX5_drawn 71 = .ok (.invokevirtual 87, 3) := by decide +kernel
theorem dX5_drawn_74 : decode cX5_drawn 74 = .ok (.invokestatic 283, 3) := by decide +kernel
theorem dX5_drawn_77 : decode cX5_drawn 77 = .ok (.iload 4, 2) := by decide +kernel
theorem dX5_drawn_79 : decode cX5_drawn 79 = .ok (.bipush 32, 2) := by decide +kernel
theorem dX5_drawn_81 : decode cX5_drawn 81 = .ok (.idiv, 1) := by decide +kernel
theorem dX5_drawn_82 : decode cX5_drawn 82 = .ok (.bipush 10, 2) := by decide +kernel
theorem dX5_drawn_84 : decode cX5_drawn 84 = .ok (.irem, 1) := by decide +kernel
theorem dX5_drawn_85 : decode cX5_drawn 85 = .ok (.invokevirtual 189, 3) := by decide +kernel
theorem dX5_drawn_88 : decode cX5_drawn 88 = .ok (.iload_n 2, 1) := by decide +kernel
theorem dX5_drawn_89 : decode cX5_drawn 89 = .ok (.aload_n 0, 1) := by decide +kernel
theorem dX5_drawn_90 : decode cX5_drawn 90 = .ok (.getfield 35, 3) := by decide +kernel
theorem dX5_drawn_93 : decode cX5_drawn 93 = .ok (.aload_n 0, 1) := by decide +kernel
theorem dX5_drawn_94 : decode cX5_drawn 94 = .ok (.getfield 23, 3) := by decide +kernel
theorem dX5_drawn_97 : decode cX5_drawn 97 = .ok (.iconst 2, 1) := by decide +kernel
theorem dX5_drawn_98 : decode cX5_drawn 98 = .ok (.invokevirtual 96, 3) := by decide +kernel
theorem dX5_drawn_101 : decode cX5_drawn 101 = .ok (.iadd, 1) := by decide +kernel
theorem dX5_drawn_102 : decode cX5_drawn 102 = .ok (.istore_n 2, 1) := by decide +kernel
theorem dX5_drawn_103 : decode cX5_drawn 103 = .ok (.iinc 3 1, 3) := by decide +kernel
theorem dX5_drawn_106 : decode cX5_drawn 106 = .ok (.goto (-77), 3) := by decide +kernel
theorem dX5_drawn_109 : decode cX5_drawn 109 = .ok (.iload_n 2, 1) := by decide +kernel
theorem dX5_drawn_110 : decode cX5_drawn 110 = .ok (.ireturn, 1) := by decide +kernel
theorem dX5_keep_0 : decode cX5_keep 0 = .ok (.iload_n 1, 1) := by decide +kernel
theorem dX5_keep_1 : decode cX5_keep 1 = .ok (.invokestatic 286, 3) := by decide +kernel
theorem dX5_keep_4 : decode cX5_keep 4 = .ok (.ifCond .ne 5, 3) := by decide +kernel
theorem dX5_keep_7 : decode cX5_keep 7 = .ok (.iconst (-1), 1) := by decide +kernel
theorem dX5_keep_8 : decode cX5_keep 8 = .ok (.ireturn, 1) := by decide +kernel
theorem dX5_keep_9 : decode cX5_keep 9 = .ok (.aload_n 0, 1) := by decide +kernel
theorem dX5_keep_10 : decode cX5_keep 10 = .ok (.iload_n 1, 1) := by decide +kernel
theorem dX5_keep_11 : decode cX5_keep 11 = .ok (.invokevirtual 289, 3) := by decide +kernel
theorem dX5_keep_14 : decode cX5_keep 14 = .ok (.aload_n 0, 1) := by decide +kernel
theorem dX5_keep_15 : decode cX5_keep 15 = .ok (.getfield 19, 3) := by decide +kernel
theorem dX5_keep_18 : decode cX5_keep 18 = .ok (.invokevirtual 242, 3) := by decide +kernel
theorem dX5_keep_21 : decode cX5_keep 21 = .ok (.aload_n 0, 1) := by decide +kernel
theorem dX5_keep_22 : decode cX5_keep 22 = .ok (.dup, 1) := by decide +kernel
theorem dX5_keep_23 : decode cX5_keep 23 = .ok (.getfield 57, 3) := by decide +kernel
theorem dX5_keep_26 : decode cX5_keep 26 = .ok (.iconst 1, 1) := by decide +kernel
theorem dX5_keep_27 : decode cX5_keep 27 = .ok (.iload_n 1, 1) := by decide +kernel
theorem dX5_keep_28 : decode cX5_keep 28 = .ok (.ishl, 1) := by decide +kernel
theorem dX5_keep_29 : decode cX5_keep 29 = .ok (.ior, 1) := by decide +kernel
theorem dX5_keep_30 : decode cX5_keep 30 = .ok (.putfield 57, 3) := by decide +kernel
theorem dX5_keep_33 : decode cX5_keep 33 = .ok (.aload_n 0, 1) := by decide +kernel
theorem dX5_keep_34 : decode cX5_keep 34 = .ok (.getfield 35, 3) := by decide +kernel
theorem dX5_keep_37 : decode cX5_keep 37 = .ok (.aload_n 0, 1) := by decide +kernel
theorem dX5_keep_38 : decode cX5_keep 38 = .ok (.getfield 19, 3) := by decide +kernel
theorem dX5_keep_41 : decode cX5_keep 41 = .ok (.iconst 2, 1) := by decide +kernel
theorem dX5_keep_42 : decode cX5_keep 42 = .ok (.invokevirtual 96, 3) := by decide +kernel
theorem dX5_keep_45 : decode cX5_keep 45 = .ok (.ireturn, 1) := by decide +kernel
theorem dX5_again_0 : decode cX5_again 0 = .ok (.iload_n 1, 1) := by decide +kernel
theorem dX5_again_1 : decode cX5_again 1 = .ok (.invokestatic 286, 3) := by decide +kernel
theorem dX5_again_4 : decode cX5_again 4 = .ok (.ifCond .ne 5, 3) := by decide +kernel
theorem dX5_again_7 : decode cX5_again 7 = .ok (.iconst (-1), 1) := by decide +kernel
theorem dX5_again_8 : decode cX5_again 8 = .ok (.ireturn, 1) := by decide +kernel
theorem dX5_again_9 : decode cX5_again 9 = .ok (.aload_n 0, 1) := by decide +kernel
theorem dX5_again_10 : decode cX5_again 10 = .ok (.getfield 57, 3) := by decide +kernel
theorem dX5_again_13 : decode cX5_again 13 = .ok (.iconst 1, 1) := by decide +kernel
theorem dX5_again_14 : decode cX5_again 14 = .ok (.iload_n 1, 1) := by decide +kernel
theorem dX5_again_15 : decode cX5_again 15 = .ok (.ishl, 1) := by decide +kernel
theorem dX5_again_16 : decode cX5_again 16 = .ok (.iand, 1) := by decide +kernel
theorem dX5_again_17 : decode cX5_again 17 = .ok (.ifCond .ne 6, 3) := by decide +kernel
theorem dX5_again_20 : decode cX5_again 20 = .ok (.bipush (-3), 2) := by decide +kernel
theorem dX5_again_22 : decode cX5_again 22 = .ok (.ireturn, 1) := by decide +kernel
theorem dX5_again_23 : decode cX5_again 23 = .ok (.aload_n 0, 1) := by decide +kernel
theorem dX5_again_24 : decode cX5_again 24 = .ok (.getfield 19, 3) := by decide +kernel
theorem dX5_again_27 : decode cX5_again 27 = .ok (.aload_n 0, 1) := by decide +kernel
theorem dX5_again_28 : decode cX5_again 28 = .ok (.iload_n 1, 1) := by decide +kernel
theorem dX5_again_29 : decode cX5_again 29 = .ok (.invokevirtual 289, 3) := by decide +kernel
theorem dX5_again_32 : decode cX5_again 32 = .ok (.invokevirtual 242, 3) := by decide +kernel
theorem dX5_again_35 : decode cX5_again 35 = .ok (.aload_n 0, 1) := by decide +kernel
theorem dX5_again_36 : decode cX5_again 36 = .ok (.getfield 42, 3) := by decide +kernel
theorem dX5_again_39 : decode cX5_again 39 = .ok (.invokevirtual 84, 3) := by decide +kernel
theorem dX5_again_42 : decode cX5_again 42 = .ok (.aload_n 0, 1) := by decide +kernel
theorem dX5_again_43 : decode cX5_again 43 = .ok (.getfield 35, 3) := by decide +kernel
theorem dX5_again_46 : decode cX5_again 46 = .ok (.aload_n 0, 1) := by decide +kernel
theorem dX5_again_47 : decode cX5_again 47 = .ok (.getfield 19, 3) := by decide +kernel
theorem dX5_again_50 : decode cX5_again 50 = .ok (.iconst 2, 1) := by decide +kernel
theorem dX5_again_51 : decode cX5_again 51 = .ok (.invokevirtual 96, 3) := by decide +kernel
theorem dX5_again_54 : decode cX5_again 54 = .ok (.ireturn, 1) := by decide +kernel
theorem dX5_isSide_0 : decode cX5_isSide 0 = .ok (.iload_n 0, 1) := by decide +kernel
theorem dX5_isSide_1 : decode cX5_isSide 1 = .ok (.ifCond .eq 8, 3) := by decide +kernel
theorem dX5_isSide_4 : decode cX5_isSide 4 = .ok (.iload_n 0, 1) := by decide +kernel
theorem dX5_isSide_5 : decode cX5_isSide 5 = .ok (.iconst 1, 1) := by decide +kernel
theorem dX5_isSide_6 : decode cX5_isSide 6 = .ok (.if_icmp .ne 7, 3) := by decide +kernel
theorem dX5_isSide_9 : decode cX5_isSide 9 = .ok (.iconst 1, 1) := by decide +kernel
theorem dX5_isSide_10 : decode cX5_isSide 10 = .ok (.goto 4, 3) := by decide +kernel
theorem dX5_isSide_13 : decode cX5_isSide 13 = .ok (.iconst 0, 1) := by decide +kernel
theorem dX5_isSide_14 : decode cX5_isSide 14 = .ok (.ireturn, 1) := by decide +kernel
theorem dX5_isFigure_0 : decode cX5_isFigure 0 = .ok (.iload_n 0, 1) := by decide +kernel
theorem dX5_isFigure_1 : decode cX5_isFigure 1 = .ok (.ifCond .lt 13, 3) := by decide +kernel
theorem dX5_isFigure_4 : decode cX5_isFigure 4 = .ok (.iload_n 0, 1) := by decide +kernel
theorem dX5_isFigure_5 : decode cX5_isFigure 5 = .ok (.bipush 10, 2) := by decide +kernel
theorem dX5_isFigure_7 : decode cX5_isFigure 7 = .ok (.if_icmp .ge 7, 3) := by decide +kernel
theorem dX5_isFigure_10 : decode cX5_isFigure 10 = .ok (.iconst 1, 1) := by decide +kernel
theorem dX5_isFigure_11 : decode cX5_isFigure 11 = .ok (.goto 4, 3) := by decide +kernel
theorem dX5_isFigure_14 : decode cX5_isFigure 14 = .ok (.iconst 0, 1) := by decide +kernel
theorem dX5_isFigure_15 : decode cX5_isFigure 15 = .ok (.ireturn, 1) := by decide +kernel
theorem dX5_isLight_0 : decode cX5_isLight 0 = .ok (.iload_n 0, 1) := by decide +kernel
theorem dX5_isLight_1 : decode cX5_isLight 1 = .ok (.bipush (-9), 2) := by decide +kernel
theorem dX5_isLight_3 : decode cX5_isLight 3 = .ok (.if_icmp .lt 13, 3) := by decide +kernel
theorem dX5_isLight_6 : decode cX5_isLight 6 = .ok (.iload_n 0, 1) := by decide +kernel
theorem dX5_isLight_7 : decode cX5_isLight 7 = .ok (.bipush 9, 2) := by decide +kernel
theorem dX5_isLight_9 : decode cX5_isLight 9 = .ok (.if_icmp .gt 7, 3) := by decide +kernel
theorem dX5_isLight_12 : decode cX5_isLight 12 = .ok (.iconst 1, 1) := by decide +kernel
theorem dX5_isLight_13 : decode cX5_isLight 13 = .ok (.goto 4, 3) := by decide +kernel
theorem dX5_isLight_16 : decode cX5_isLight 16 = .ok (.iconst 0, 1) := by decide +kernel
theorem dX5_isLight_17 : decode cX5_isLight 17 = .ok (.ireturn, 1) := by decide +kernel
theorem dX5_isRule_0 : decode cX5_isRule 0 = .ok (.iload_n 0, 1) := by decide +kernel
theorem dX5_isRule_1 : decode cX5_isRule 1 = .ok (.ifCond .lt 28, 3) := by decide +kernel
theorem dX5_isRule_4 : decode cX5_isRule 4 = .ok (.iload_n 0, 1) := by decide +kernel
theorem dX5_isRule_5 : decode cX5_isRule 5 = .ok (.iconst 3, 1) := by decide +kernel
theorem dX5_isRule_6 : decode cX5_isRule 6 = .ok (.if_icmp .ge 23, 3) := by decide +kernel
theorem dX5_isRule_9 : decode cX5_isRule 9 = .ok (.iload_n 1, 1) := by decide +kernel
theorem dX5_isRule_10 : decode cX5_isRule 10 = .ok (.ifCond .lt 19, 3) := by decide +kernel
theorem dX5_isRule_13 : decode cX5_isRule 13 = .ok (.iload_n 1, 1) := by decide +kernel
theorem dX5_isRule_14 : decode cX5_isRule 14 = .ok (.iconst 3, 1) := by decide +kernel
theorem dX5_isRule_15 : decode cX5_isRule 15 = .ok (.if_icmp .ge 14, 3) := by decide +kernel
theorem dX5_isRule_18 : decode cX5_isRule 18 = .ok (.iload_n 2, 1) := by decide +kernel
theorem dX5_isRule_19 : decode cX5_isRule 19 = .ok (.invokestatic 137, 3) := by decide +kernel
theorem dX5_isRule_22 : decode cX5_isRule 22 = .ok (.ifCond .eq 7, 3) := by decide +kernel
theorem dX5_isRule_25 : decode cX5_isRule 25 = .ok (.iconst 1, 1) := by decide +kernel
theorem dX5_isRule_26 : decode cX5_isRule 26 = .ok (.goto 4, 3) := by decide +kernel
theorem dX5_isRule_29 : decode cX5_isRule 29 = .ok (.iconst 0, 1) := by decide +kernel
theorem dX5_isRule_30 : decode cX5_isRule 30 = .ok (.ireturn, 1) := by decide +kernel
theorem dX5_isLie_0 : decode cX5_isLie 0 = .ok (.iload_n 0, 1) := by decide +kernel
theorem dX5_isLie_1 : decode cX5_isLie 1 = .ok (.iconst (-1), 1) := by decide +kernel
theorem dX5_isLie_2 : decode cX5_isLie 2 = .ok (.if_icmp .lt 22, 3) := by decide +kernel
theorem dX5_isLie_5 : decode cX5_isLie 5 = .ok (.iload_n 0, 1) := by decide +kernel
theorem dX5_isLie_6 : decode cX5_isLie 6 = .ok (.iconst 1, 1) := by decide +kernel
theorem dX5_isLie_7 : decode cX5_isLie 7 = .ok (.if_icmp .gt 17, 3) := by decide +kernel
theorem dX5_isLie_10 : decode cX5_isLie 10 = .ok (.iload_n 1, 1) := by decide +kernel
theorem dX5_isLie_11 : decode cX5_isLie 11 = .ok (.iconst (-1), 1) := by decide +kernel
theorem dX5_isLie_12 : decode cX5_isLie 12 = .ok (.if_icmp .lt 12, 3) := by decide +kernel
theorem dX5_isLie_15 : decode cX5_isLie 15 = .ok (.iload_n 1, 1) := by decide +kernel
theorem dX5_isLie_16 : decode cX5_isLie 16 = .ok (.iconst 1, 1) := by decide +kernel
theorem dX5_isLie_17 : decode cX5_isLie 17 = .ok (.if_icmp .gt 7, 3) := by decide +kernel
theorem dX5_isLie_20 : decode cX5_isLie 20 = .ok (.iconst 1, 1) := by decide +kernel
theorem dX5_isLie_21 : decode cX5_isLie 21 = .ok (.goto 4, 3) := by decide +kernel
theorem dX5_isLie_24 : decode cX5_isLie 24 = .ok (.iconst 0, 1) := by decide +kernel
theorem dX5_isLie_25 : decode cX5_isLie 25 = .ok (.ireturn, 1) := by decide +kernel
theorem dX5_isSlot_0 : decode cX5_isSlot 0 = .ok (.iload_n 0, 1) := by decide +kernel
theorem dX5_isSlot_1 : decode cX5_isSlot 1 = .ok (.ifCond .lt 12, 3) := by decide +kernel
theorem dX5_isSlot_4 : decode cX5_isSlot 4 = .ok (.iload_n 0, 1) := by decide +kernel
theorem dX5_isSlot_5 : decode cX5_isSlot 5 = .ok (.iconst 2, 1) := by decide +kernel
theorem dX5_isSlot_6 : decode cX5_isSlot 6 = .ok (.if_icmp .ge 7, 3) := by decide +kernel
theorem dX5_isSlot_9 : decode cX5_isSlot 9 = .ok (.iconst 1, 1) := by decide +kernel
theorem dX5_isSlot_10 : decode cX5_isSlot 10 = .ok (.goto 4, 3) := by decide +kernel
theorem dX5_isSlot_13 : decode cX5_isSlot 13 = .ok (.iconst 0, 1) := by decide +kernel
theorem dX5_isSlot_14 : decode cX5_isSlot 14 = .ok (.ireturn, 1) := by decide +kernel
theorem dX5_slotAt_0 : decode cX5_slotAt 0 = .ok (.iload_n 1, 1) := by decide +kernel
theorem dX5_slotAt_1 : decode cX5_slotAt 1 = .ok (.ifCond .ne 10, 3) := by decide +kernel
theorem dX5_slotAt_4 : decode cX5_slotAt 4 = .ok (.aload_n 0, 1) := by decide +kernel
theorem dX5_slotAt_5 : decode cX5_slotAt 5 = .ok (.getfield 26, 3) := by decide +kernel
theorem dX5_slotAt_8 : decode cX5_slotAt 8 = .ok (.goto 7, 3) := by decide +kernel
theorem dX5_slotAt_11 : decode cX5_slotAt 11 = .ok (.aload_n 0, 1) := by decide +kernel
theorem dX5_slotAt_12 : decode cX5_slotAt 12 = .ok (.getfield 29, 3) := by decide +kernel
theorem dX5_slotAt_15 : decode cX5_slotAt 15 = .ok (.areturn, 1) := by decide +kernel
theorem dX5_inkWhenCome_0 : decode cX5_inkWhenCome 0 = .ok (.aload_n 0, 1) := by decide +kernel
theorem dX5_inkWhenCome_1 : decode cX5_inkWhenCome 1 = .ok (.getfield 23, 3) := by decide +kernel
theorem dX5_inkWhenCome_4 : decode cX5_inkWhenCome 4 = .ok (.aload_n 0, 1) := by decide +kernel
theorem dX5_inkWhenCome_5 : decode cX5_inkWhenCome 5 = .ok (.getfield 19, 3) := by decide +kernel
theorem dX5_inkWhenCome_8 : decode cX5_inkWhenCome 8 = .ok (.invokevirtual 242, 3) := by decide +kernel
theorem dX5_inkWhenCome_11 : decode cX5_inkWhenCome 11 = .ok (.iconst 0, 1) := by decide +kernel
theorem dX5_inkWhenCome_12 : decode cX5_inkWhenCome 12 = .ok (.istore_n 2, 1) := by decide +kernel
theorem dX5_inkWhenCome_13 : decode cX5_inkWhenCome 13 = .ok (.iload_n 2, 1) := by decide +kernel
theorem dX5_inkWhenCome_14 : decode cX5_inkWhenCome 14 = .ok (.aload_n 0, 1) := by decide +kernel
theorem dX5_inkWhenCome_15 : decode cX5_inkWhenCome 15 = .ok (.getfield 19, 3) := by decide +kernel
theorem dX5_inkWhenCome_18 : decode cX5_inkWhenCome 18 = .ok (.getfield 93, 3) := by decide +kernel
theorem dX5_inkWhenCome_21 : decode cX5_inkWhenCome 21 = .ok (.if_icmp .ge 26, 3) := by decide +kernel
theorem dX5_inkWhenCome_24 : decode cX5_inkWhenCome 24 = .ok (.iload_n 1, 1) := by decide +kernel
theorem dX5_inkWhenCome_25 : decode cX5_inkWhenCome 25 = .ok (.iconst 1, 1) := by decide +kernel
theorem dX5_inkWhenCome_26 : decode cX5_inkWhenCome 26 = .ok (.iload_n 2, 1) := by decide +kernel
theorem dX5_inkWhenCome_27 : decode cX5_inkWhenCome 27 = .ok (.ishl, 1) := by decide +kernel
theorem dX5_inkWhenCome_28 : decode cX5_inkWhenCome 28 = .ok (.iand, 1) := by decide +kernel
theorem dX5_inkWhenCome_29 : decode cX5_inkWhenCome 29 = .ok (.ifCond .ne 12, 3) := by decide +kernel
theorem dX5_inkWhenCome_32 : decode cX5_inkWhenCome 32 = .ok (.aload_n 0, 1) := by decide +kernel
theorem dX5_inkWhenCome_33 : decode cX5_inkWhenCome 33 = .ok (.getfield 23, 3) := by decide +kernel
theorem dX5_inkWhenCome_36 : decode cX5_inkWhenCome 36 = .ok (.iload_n 2, 1) := by decide +kernel
theorem dX5_inkWhenCome_37 : decode cX5_inkWhenCome 37 = .ok (.iconst (-1), 1) := by decide +kernel
theorem dX5_inkWhenCome_38 : decode cX5_inkWhenCome 38 = .ok (.invokevirtual 293, 3) := by decide +kernel
theorem dX5_inkWhenCome_41 : decode cX5_inkWhenCome 41 = .ok (.iinc 2 1, 3) := by decide +kernel
theorem dX5_inkWhenCome_44 : decode cX5_inkWhenCome 44 = .ok (.goto (-31), 3) := by decide +kernel
theorem dX5_inkWhenCome_47 : decode cX5_inkWhenCome 47 = .ok (.aload_n 0, 1) := by decide +kernel
theorem dX5_inkWhenCome_48 : decode cX5_inkWhenCome 48 = .ok (.getfield 35, 3) := by decide +kernel
theorem dX5_inkWhenCome_51 : decode cX5_inkWhenCome 51 = .ok (.aload_n 0, 1) := by decide +kernel
theorem dX5_inkWhenCome_52 : decode cX5_inkWhenCome 52 = .ok (.getfield 23, 3) := by decide +kernel
theorem dX5_inkWhenCome_55 : decode cX5_inkWhenCome 55 = .ok (.iconst 2, 1) := by decide +kernel
theorem dX5_inkWhenCome_56 : decode cX5_inkWhenCome 56 = .ok (.invokevirtual 96, 3) := by decide +kernel
theorem dX5_inkWhenCome_59 : decode cX5_inkWhenCome 59 = .ok (.ireturn, 1) := by decide +kernel
theorem dX5_ordersWith_0 : decode cX5_ordersWith 0 = .ok (.iload_n 0, 1) := by decide +kernel
theorem dX5_ordersWith_1 : decode cX5_ordersWith 1 = .ok (.invokestatic 180, 3) := by decide +kernel
theorem dX5_ordersWith_4 : decode cX5_ordersWith 4 = .ok (.istore_n 2, 1) := by decide +kernel
theorem dX5_ordersWith_5 : decode cX5_ordersWith 5 = .ok (.iload_n 2, 1) := by decide +kernel
theorem dX5_ordersWith_6 : decode cX5_ordersWith 6 = .ok (.invokestatic 260, 3) := by decide +kernel
theorem dX5_ordersWith_9 : decode cX5_ordersWith 9 = .ok (.iload_n 1, 1) := by decide +kernel
theorem dX5_ordersWith_10 : decode cX5_ordersWith 10 = .ok (.iconst 1, 1) := by decide +kernel
theorem dX5_ordersWith_11 : decode cX5_ordersWith 11 = .ok (.isub, 1) := by decide +kernel
theorem dX5_ordersWith_12 : decode cX5_ordersWith 12 = .ok (.iload_n 2, 1) := by decide +kernel
theorem dX5_ordersWith_13 : decode cX5_ordersWith 13 = .ok (.isub, 1) := by decide +kernel
theorem dX5_ordersWith_14 : decode cX5_ordersWith 14 = .ok (.invokestatic 260, 3) := by decide +kernel
theorem dX5_ordersWith_17 : decode cX5_ordersWith 17 = .ok (.imul, 1) := by decide +kernel
theorem dX5_ordersWith_18 : decode cX5_ordersWith 18 = .ok (.ireturn, 1) := by decide +kernel
theorem dX5_inkWhenBleached_0 : decode cX5_inkWhenBleached 0 = .ok (.aload_n 0, 1) := by decide +kernel
theorem dX5_inkWhenBleached_1 : decode cX5_inkWhenBleached 1 = .ok (.getfield 23, 3) := by decide +kernel
theorem dX5_inkWhenBleached_4 : decode cX5_inkWhenBleached 4 = .ok (.aload_n 0, 1) := by decide +kernel
theorem dX5_inkWhenBleached_5 : decode cX5_inkWhenBleached 5 = .ok (.getfield 19, 3) := by decide +kernel
theorem dX5_inkWhenBleached_8 : decode cX5_inkWhenBleached 8 = .ok (.invokevirtual 242, 3) := by decide +kernel
theorem dX5_inkWhenBleached_11 : decode cX5_inkWhenBleached 11 = .ok (.aload_n 0, 1) := by decide +kernel
theorem dX5_inkWhenBleached_12 : decode cX5_inkWhenBleached 12 = .ok (.getfield 23, 3) := by decide +kernel
theorem dX5_inkWhenBleached_15 : decode cX5_inkWhenBleached 15 = .ok (.iload_n 1, 1) := by decide +kernel
theorem dX5_inkWhenBleached_16 : decode cX5_inkWhenBleached 16 = .ok (.iload_n 2, 1) := by decide +kernel
theorem dX5_inkWhenBleached_17 : decode cX5_inkWhenBleached 17 = .ok (.invokevirtual 293, 3) := by decide +kernel
theorem dX5_inkWhenBleached_20 : decode cX5_inkWhenBleached 20 = .ok (.aload_n 0, 1) := by decide +kernel
theorem dX5_inkWhenBleached_21 : decode cX5_inkWhenBleached 21 = .ok (.getfield 35, 3) := by decide +kernel
theorem dX5_inkWhenBleached_24 : decode cX5_inkWhenBleached 24 = .ok (.aload_n 0, 1) := by decide +kernel
theorem dX5_inkWhenBleached_25 : decode cX5_inkWhenBleached 25 = .ok (.getfield 23, 3) := by decide +kernel
theorem dX5_inkWhenBleached_28 : decode cX5_inkWhenBleached 28 = .ok (.iconst 2, 1) := by decide +kernel
theorem dX5_inkWhenBleached_29 : decode cX5_inkWhenBleached 29 = .ok (.invokevirtual 96, 3) := by decide +kernel
theorem dX5_inkWhenBleached_32 : decode cX5_inkWhenBleached 32 = .ok (.ireturn, 1) := by decide +kernel
theorem dX5_bestLie_0 : decode cX5_bestLie 0 = .ok (.bipush (-9), 2) := by decide +kernel
theorem dX5_bestLie_2 : decode cX5_bestLie 2 = .ok (.istore_n 1, 1) := by decide +kernel
theorem dX5_bestLie_3 : decode cX5_bestLie 3 = .ok (.iconst 0, 1) := by decide +kernel
theorem dX5_bestLie_4 : decode cX5_bestLie 4 = .ok (.istore_n 2, 1) := by decide +kernel
theorem dX5_bestLie_5 : decode cX5_bestLie 5 = .ok (.iconst 1, 1) := by decide +kernel
theorem dX5_bestLie_6 : decode cX5_bestLie 6 = .ok (.istore_n 3, 1) := by decide +kernel
theorem dX5_bestLie_7 : decode cX5_bestLie 7 = .ok (.iconst (-1), 1) := by decide +kernel
theorem dX5_bestLie_8 : decode cX5_bestLie 8 = .ok (.istore 4, 2) := by decide +kernel
theorem dX5_bestLie_10 : decode cX5_bestLie 10 = .ok (.iload 4, 2) := by decide +kernel
theorem dX5_bestLie_12 : decode cX5_bestLie 12 = .ok (.iconst 1, 1) := by decide +kernel
theorem dX5_bestLie_13 : decode cX5_bestLie 13 = .ok (.if_icmp .gt 86, 3) := by decide +kernel
theorem dX5_bestLie_16 : decode cX5_bestLie 16 = .ok (.iconst (-1), 1) := by decide +kernel
theorem dX5_bestLie_17 : decode cX5_bestLie 17 = .ok (.istore 5, 2) := by decide +kernel
theorem dX5_bestLie_19 : decode cX5_bestLie 19 = .ok (.iload 5, 2) := by decide +kernel
theorem dX5_bestLie_21 : decode cX5_bestLie 21 = .ok (.iconst 1, 1) := by decide +kernel
theorem dX5_bestLie_22 : decode cX5_bestLie 22 = .ok (.if_icmp .gt 71, 3) := by decide +kernel
theorem dX5_bestLie_25 : decode cX5_bestLie 25 = .ok (.aload_n 0, 1) := by decide +kernel
theorem dX5_bestLie_26 : decode cX5_bestLie 26 = .ok (.getfield 19, 3) := by decide +kernel
theorem dX5_bestLie_29 : decode cX5_bestLie 29 = .ok (.iload 4, 2) := by decide +kernel
theorem dX5_bestLie_31 : decode cX5_bestLie 31 = .ok (.iload 5, 2) := by decide +kernel
theorem dX5_bestLie_33 : decode cX5_bestLie 33 = .ok (.invokevirtual 228, 3) := by decide +kernel
theorem dX5_bestLie_36 : decode cX5_bestLie 36 = .ok (.istore 6, 2) := by decide +kernel
theorem dX5_bestLie_38 : decode cX5_bestLie 38 = .ok (.aload_n 0, 1) := by decide +kernel
theorem dX5_bestLie_39 : decode cX5_bestLie 39 = .ok (.getfield 19, 3) := by decide +kernel
theorem dX5_bestLie_42 : decode cX5_bestLie 42 = .ok (.iload 4, 2) := by decide +kernel
theorem dX5_bestLie_44 : decode cX5_bestLie 44 = .ok (.iload 5, 2) := by decide +kernel
theorem dX5_bestLie_46 : decode cX5_bestLie 46 = .ok (.invokevirtual 225, 3) := by decide +kernel
theorem dX5_bestLie_49 : decode cX5_bestLie 49 = .ok (.istore 7, 2) := by decide +kernel
theorem dX5_bestLie_51 : decode cX5_bestLie 51 = .ok (.iload 7, 2) := by decide +kernel
theorem dX5_bestLie_53 : decode cX5_bestLie 53 = .ok (.ifCond .le 34, 3) := by decide +kernel
theorem dX5_bestLie_56 : decode cX5_bestLie 56 = .ok (.iload_n 1, 1) := by decide +kernel
theorem dX5_bestLie_57 : decode cX5_bestLie 57 = .ok (.bipush (-9), 2) := by decide +kernel
theorem dX5_bestLie_59 : decode cX5_bestLie 59 = .ok (.if_icmp .eq 14, 3) := by decide +kernel
theorem dX5_bestLie_62 : decode cX5_bestLie 62 = .ok (.iload 6, 2) := by decide +kernel
theorem dX5_bestLie_64 : decode cX5_bestLie 64 = .ok (.iload_n 3, 1) := by decide +kernel
theorem dX5_bestLie_65 : decode cX5_bestLie 65 = .ok (.imul, 1) := by decide +kernel
theorem dX5_bestLie_66 : decode cX5_bestLie 66 = .ok (.iload_n 2, 1) := by decide +kernel
theorem dX5_bestLie_67 : decode cX5_bestLie 67 = .ok (.iload 7, 2) := by decide +kernel
theorem dX5_bestLie_69 : decode cX5_bestLie 69 = .ok (.imul, 1) := by decide +kernel
theorem dX5_bestLie_70 : decode cX5_bestLie 70 = .ok (.if_icmp .ge 17, 3) := by decide +kernel
theorem dX5_bestLie_73 : decode cX5_bestLie 73 = .ok (.iload 4, 2) := by decide +kernel
theorem dX5_bestLie_75 : decode cX5_bestLie 75 = .ok (.iload 5, 2) := by decide +kernel
theorem dX5_bestLie_77 : decode cX5_bestLie 77 = .ok (.invokestatic 118, 3) := by decide +kernel
theorem dX5_bestLie_80 : decode cX5_bestLie 80 = .ok (.istore_n 1, 1) := by decide +kernel
theorem dX5_bestLie_81 : decode cX5_bestLie 81 = .ok (.iload 6, 2) := by decide +kernel
theorem dX5_bestLie_83 : decode cX5_bestLie 83 = .ok (.istore_n 2, 1) := by decide +kernel
theorem dX5_bestLie_84 : decode cX5_bestLie 84 = .ok (.iload 7, 2) := by decide +kernel
theorem dX5_bestLie_86 : decode cX5_bestLie 86 = .ok (.istore_n 3, 1) := by decide +kernel
theorem dX5_bestLie_87 : decode cX5_bestLie 87 = .ok (.iinc 5 1, 3) := by decide +kernel
theorem dX5_bestLie_90 : decode cX5_bestLie 90 = .ok (.goto (-71), 3) := by decide +kernel
theorem dX5_bestLie_93 : decode cX5_bestLie 93 = .ok (.iinc 4 1, 3) := by decide +kernel
theorem dX5_bestLie_96 : decode cX5_bestLie 96 = .ok (.goto (-86), 3) := by decide +kernel
theorem dX5_bestLie_99 : decode cX5_bestLie 99 = .ok (.iload_n 1, 1) := by decide +kernel
theorem dX5_bestLie_100 : decode cX5_bestLie 100 = .ok (.ireturn, 1) := by decide +kernel
theorem dX5_bestWindow_0 : decode cX5_bestWindow 0 = .ok (.bipush (-9), 2) := by decide +kernel
theorem dX5_bestWindow_2 : decode cX5_bestWindow 2 = .ok (.istore_n 2, 1) := by decide +kernel
theorem dX5_bestWindow_3 : decode cX5_bestWindow 3 = .ok (.iconst 0, 1) := by decide +kernel
theorem dX5_bestWindow_4 : decode cX5_bestWindow 4 = .ok (.istore_n 3, 1) := by decide +kernel
theorem dX5_bestWindow_5 : decode cX5_bestWindow 5 = .ok (.iconst 0, 1) := by decide +kernel
theorem dX5_bestWindow_6 : decode cX5_bestWindow 6 = .ok (.istore 4, 2) := by decide +kernel
theorem dX5_bestWindow_8 : decode cX5_bestWindow 8 = .ok (.iload 4, 2) := by decide +kernel
theorem dX5_bestWindow_10 : decode cX5_bestWindow 10 = .ok (.iconst 3, 1) := by decide +kernel
theorem dX5_bestWindow_11 : decode cX5_bestWindow 11 = .ok (.if_icmp .ge 123, 3) := by decide +kernel
theorem dX5_bestWindow_14 : decode cX5_bestWindow 14 = .ok (.aload_n 0, 1) := by decide +kernel
theorem dX5_bestWindow_15 : decode cX5_bestWindow 15 = .ok (.getfield 35, 3) := by decide +kernel
theorem dX5_bestWindow_18 : decode cX5_bestWindow 18 = .ok (.aload_n 0, 1) := by decide +kernel
theorem dX5_bestWindow_19 : decode cX5_bestWindow 19 = .ok (.getfield 19, 3) := by decide +kernel
theorem dX5_bestWindow_22 : decode cX5_bestWindow 22 = .ok (.iload 4, 2) := by decide +kernel
theorem dX5_bestWindow_24 : decode cX5_bestWindow 24 = .ok (.invokevirtual 170, 3) := by decide +kernel
theorem dX5_bestWindow_27 : decode cX5_bestWindow 27 = .ok (.iconst 0, 1) := by decide +kernel
theorem dX5_bestWindow_28 : decode cX5_bestWindow 28 = .ok (.istore 5, 2) := by decide +kernel
theorem dX5_bestWindow_30 : decode cX5_bestWindow 30 = .ok (.iload 5, 2) := by decide +kernel
theorem dX5_bestWindow_32 : decode cX5_bestWindow 32 = .ok (.bipush 10, 2) := by decide +kernel
theorem dX5_bestWindow_34 : decode cX5_bestWindow 34 = .ok (.if_icmp .ge 94, 3) := by decide +kernel
theorem dX5_bestWindow_37 : decode cX5_bestWindow 37 = .ok (.aload_n 0, 1) := by decide +kernel
theorem dX5_bestWindow_38 : decode cX5_bestWindow 38 = .ok (.getfield 35, 3) := by decide +kernel
theorem dX5_bestWindow_41 : decode cX5_bestWindow 41 = .ok (.iload 5, 2) := by decide +kernel
theorem dX5_bestWindow_43 : decode cX5_bestWindow 43 = .ok (.iconst 2, 1) := by decide +kernel
theorem dX5_bestWindow_44 : decode cX5_bestWindow 44 = .ok (.invokevirtual 174, 3) := by decide +kernel
theorem dX5_bestWindow_47 : decode cX5_bestWindow 47 = .ok (.invokestatic 180, 3) := by decide +kernel
theorem dX5_bestWindow_50 : decode cX5_bestWindow 50 = .ok (.istore 6, 2) := by decide +kernel
theorem dX5_bestWindow_52 : decode cX5_bestWindow 52 = .ok (.iload_n 1, 1) := by decide +kernel
theorem dX5_bestWindow_53 : decode cX5_bestWindow 53 = .ok (.ifCond .ne 9, 3) := by decide +kernel
theorem dX5_bestWindow_56 : decode cX5_bestWindow 56 = .ok (.iload 6, 2) := by decide +kernel
theorem dX5_bestWindow_58 : decode cX5_bestWindow 58 = .ok (.iconst 1, 1) := by decide +kernel
theorem dX5_bestWindow_59 : decode cX5_bestWindow 59 = .ok (.if_icmp .lt 7, 3) := by decide +kernel
theorem dX5_bestWindow_62 : decode cX5_bestWindow 62 = .ok (.iconst 1, 1) := by decide +kernel
theorem dX5_bestWindow_63 : decode cX5_bestWindow 63 = .ok (.goto 4, 3) := by decide +kernel
theorem dX5_bestWindow_66 : decode cX5_bestWindow 66 = .ok (.iconst 0, 1) := by decide +kernel
theorem dX5_bestWindow_67 : decode cX5_bestWindow 67 = .ok (.istore 7, 2) := by decide +kernel
theorem dX5_bestWindow_69 : decode cX5_bestWindow 69 = .ok (.iload_n 2, 1) := by decide +kernel
theorem dX5_bestWindow_70 : decode cX5_bestWindow 70 = .ok (.bipush (-9), 2) := by decide +kernel
theorem dX5_bestWindow_72 : decode cX5_bestWindow 72 = .ok (.if_icmp .eq 22, 3) := by decide +kernel
theorem dX5_bestWindow_75 : decode cX5_bestWindow 75 = .ok (.iload_n 1, 1) := by decide +kernel
theorem dX5_bestWindow_76 : decode cX5_bestWindow 76 = .ok (.ifCond .eq 12, 3) := by decide +kernel
theorem dX5_bestWindow_79 : decode cX5_bestWindow 79 = .ok (.iload 6, 2) := by decide +kernel
theorem dX5_bestWindow_81 : decode cX5_bestWindow 81 = .ok (.iload_n 3, 1) := by decide +kernel
theorem dX5_bestWindow_82 : decode cX5_bestWindow 82 = .ok (.if_icmp .le 16, 3) := by decide +kernel
theorem dX5_bestWindow_85 : decode cX5_bestWindow 85 = .ok (.goto 9, 3) := by decide +kernel
theorem dX5_bestWindow_88 : decode cX5_bestWindow 88 = .ok (.iload 6, 2) := by decide +kernel
theorem dX5_bestWindow_90 : decode cX5_bestWindow 90 = .ok (.iload_n 3, 1) := by decide +kernel
theorem dX5_bestWindow_91 : decode cX5_bestWindow 91 = .ok (.if_icmp .ge 7, 3) := by decide +kernel
theorem dX5_bestWindow_94 : decode cX5_bestWindow 94 = .ok (.iconst 1, 1) := by decide +kernel
theorem dX5_bestWindow_95 : decode cX5_bestWindow 95 = .ok (.goto 4, 3) := by decide +kernel
theorem dX5_bestWindow_98 : decode cX5_bestWindow 98 = .ok (.iconst 0, 1) := by decide +kernel
theorem dX5_bestWindow_99 : decode cX5_bestWindow 99 = .ok (.istore 8, 2) := by decide +kernel
theorem dX5_bestWindow_101 : decode cX5_bestWindow 101 = .ok (.iload 7, 2) := by decide +kernel
theorem dX5_bestWindow_103 : decode cX5_bestWindow 103 = .ok (.ifCond .eq 19, 3) := by decide +kernel
theorem dX5_bestWindow_106 : decode cX5_bestWindow 106 = .ok (.iload 8, 2) := by decide +kernel
theorem dX5_bestWindow_108 : decode cX5_bestWindow 108 = .ok (.ifCond .eq 14, 3) := by decide +kernel
theorem dX5_bestWindow_111 : decode cX5_bestWindow 111 = .ok (.iload 4, 2) := by decide +kernel
theorem dX5_bestWindow_113 : decode cX5_bestWindow 113 = .ok (.iload 5, 2) := by decide +kernel
theorem dX5_bestWindow_115 : decode cX5_bestWindow 115 = .ok (.invokestatic 270, 3) := by decide +kernel
theorem dX5_bestWindow_118 : decode cX5_bestWindow 118 = .ok (.istore_n 2, 1) := by decide +kernel
theorem dX5_bestWindow_119 : decode cX5_bestWindow 119 = .ok (.iload 6, 2) := by decide +kernel
theorem dX5_bestWindow_121 : decode cX5_bestWindow 121 = .ok (.istore_n 3, 1) := by decide +kernel
theorem dX5_bestWindow_122 : decode cX5_bestWindow 122 = .ok (.iinc 5 1, 3) := by decide +kernel
theorem dX5_bestWindow_125 : decode cX5_bestWindow 125 = .ok (.goto (-95), 3) := by decide +kernel
theorem dX5_bestWindow_128 : decode cX5_bestWindow 128 = .ok (.iinc 4 1, 3) := by decide +kernel
theorem dX5_bestWindow_131 : decode cX5_bestWindow 131 = .ok (.goto (-123), 3) := by decide +kernel
theorem dX5_bestWindow_134 : decode cX5_bestWindow 134 = .ok (.iload_n 2, 1) := by decide +kernel
theorem dX5_bestWindow_135 : decode cX5_bestWindow 135 = .ok (.ireturn, 1) := by decide +kernel
theorem dX5_lieNumber_0 : decode cX5_lieNumber 0 = .ok (.bipush 10, 2) := by decide +kernel
theorem dX5_lieNumber_2 : decode cX5_lieNumber 2 = .ok (.iload_n 0, 1) := by decide +kernel
theorem dX5_lieNumber_3 : decode cX5_lieNumber 3 = .ok (.iconst 1, 1) := by decide +kernel
theorem dX5_lieNumber_4 : decode cX5_lieNumber 4 = .ok (.iadd, 1) := by decide +kernel
theorem dX5_lieNumber_5 : decode cX5_lieNumber 5 = .ok (.imul, 1) := by decide +kernel
theorem dX5_lieNumber_6 : decode cX5_lieNumber 6 = .ok (.iload_n 1, 1) := by decide +kernel
theorem dX5_lieNumber_7 : decode cX5_lieNumber 7 = .ok (.iadd, 1) := by decide +kernel
theorem dX5_lieNumber_8 : decode cX5_lieNumber 8 = .ok (.iconst 1, 1) := by decide +kernel
theorem dX5_lieNumber_9 : decode cX5_lieNumber 9 = .ok (.iadd, 1) := by decide +kernel
theorem dX5_lieNumber_10 : decode cX5_lieNumber 10 = .ok (.ireturn, 1) := by decide +kernel
theorem dX5_windowNumber_0 : decode cX5_windowNumber 0 = .ok (.bipush 10, 2) := by decide +kernel
theorem dX5_windowNumber_2 : decode cX5_windowNumber 2 = .ok (.iload_n 0, 1) := by decide +kernel
theorem dX5_windowNumber_3 : decode cX5_windowNumber 3 = .ok (.imul, 1) := by decide +kernel
theorem dX5_windowNumber_4 : decode cX5_windowNumber 4 = .ok (.iload_n 1, 1) := by decide +kernel
theorem dX5_windowNumber_5 : decode cX5_windowNumber 5 = .ok (.iadd, 1) := by decide +kernel
theorem dX5_windowNumber_6 : decode cX5_windowNumber 6 = .ok (.ireturn, 1) := by decide +kernel
theorem dX5_canBe_0 : decode cX5_canBe 0 = .ok (.iload_n 1, 1) := by decide +kernel
theorem dX5_canBe_1 : decode cX5_canBe 1 = .ok (.sipush 1000, 3) := by decide +kernel
theorem dX5_canBe_4 : decode cX5_canBe 4 = .ok (.idiv, 1) := by decide +kernel
theorem dX5_canBe_5 : decode cX5_canBe 5 = .ok (.bipush 10, 2) := by decide +kernel
theorem dX5_canBe_7 : decode cX5_canBe 7 = .ok (.irem, 1) := by decide +kernel
theorem dX5_canBe_8 : decode cX5_canBe 8 = .ok (.istore_n 2, 1) := by decide +kernel
theorem dX5_canBe_9 : decode cX5_canBe 9 = .ok (.iload_n 1, 1) := by decide +kernel
theorem dX5_canBe_10 : decode cX5_canBe 10 = .ok (.bipush 100, 2) := by decide +kernel
theorem dX5_canBe_12 : decode cX5_canBe 12 = .ok (.idiv, 1) := by decide +kernel
theorem dX5_canBe_13 : decode cX5_canBe 13 = .ok (.bipush 10, 2) := by decide +kernel
theorem dX5_canBe_15 : decode cX5_canBe 15 = .ok (.irem, 1) := by decide +kernel
theorem dX5_canBe_16 : decode cX5_canBe 16 = .ok (.istore_n 3, 1) := by decide +kernel
theorem dX5_canBe_17 : decode cX5_canBe 17 = .ok (.iload_n 1, 1) := by decide +kernel
theorem dX5_canBe_18 : decode cX5_canBe 18 = .ok (.bipush 10, 2) := by decide +kernel
theorem dX5_canBe_20 : decode cX5_canBe 20 = .ok (.idiv, 1) := by decide +kernel
theorem dX5_canBe_21 : decode cX5_canBe 21 = .ok (.bipush 10, 2) := by decide +kernel
theorem dX5_canBe_23 : decode cX5_canBe 23 = .ok (.irem, 1) := by decide +kernel
theorem dX5_canBe_24 : decode cX5_canBe 24 = .ok (.istore 4, 2) := by decide +kernel
theorem dX5_canBe_26 : decode cX5_canBe 26 = .ok (.iload_n 1, 1) := by decide +kernel
theorem dX5_canBe_27 : decode cX5_canBe 27 = .ok (.bipush 10, 2) := by decide +kernel
theorem dX5_canBe_29 : decode cX5_canBe 29 = .ok (.irem, 1) := by decide +kernel
theorem dX5_canBe_30 : decode cX5_canBe 30 = .ok (.istore 5, 2) := by decide +kernel
theorem dX5_canBe_32 : decode cX5_canBe 32 = .ok (.bipush 10, 2) := by decide +kernel
theorem dX5_canBe_34 : decode cX5_canBe 34 = .ok (.iload_n 3, 1) := by decide +kernel
theorem dX5_canBe_35 : decode cX5_canBe 35 = .ok (.imul, 1) := by decide +kernel
theorem dX5_canBe_36 : decode cX5_canBe 36 = .ok (.iload 4, 2) := by decide +kernel
theorem dX5_canBe_38 : decode cX5_canBe 38 = .ok (.iadd, 1) := by decide +kernel
theorem dX5_canBe_39 : decode cX5_canBe 39 = .ok (.istore 6, 2) := by decide +kernel
theorem dX5_canBe_41 : decode cX5_canBe 41 = .ok (.iload 4, 2) := by decide +kernel
theorem dX5_canBe_43 : decode cX5_canBe 43 = .ok (.ifCond .ne 12, 3) := by decide +kernel
theorem dX5_canBe_46 : decode cX5_canBe 46 = .ok (.iload 5, 2) := by decide +kernel
theorem dX5_canBe_48 : decode cX5_canBe 48 = .ok (.ifCond .ne 7, 3) := by decide +kernel
theorem dX5_canBe_51 : decode cX5_canBe 51 = .ok (.iconst 1, 1) := by decide +kernel
theorem dX5_canBe_52 : decode cX5_canBe 52 = .ok (.goto 4, 3) := by decide +kernel
theorem dX5_canBe_55 : decode cX5_canBe 55 = .ok (.iconst 0, 1) := by decide +kernel
theorem dX5_canBe_56 : decode cX5_canBe 56 = .ok (.istore 7, 2) := by decide +kernel
theorem dX5_canBe_58 : decode cX5_canBe 58 = .ok (.iload_n 1, 1) := by decide +kernel
theorem dX5_canBe_59 : decode cX5_canBe 59 = .ok (.sipush 10000, 3) := by decide +kernel
theorem dX5_canBe_62 : decode cX5_canBe 62 = .ok (.idiv, 1) := by decide +kernel
theorem dX5_canBe_63 : decode cX5_canBe 63 = .ok (.tableswitch 197 1 7 #[41, 51, 78, 100, 120, 144, 165], 41) := by decide +kernel
theorem dX5_canBe_104 : decode cX5_canBe 104 = .ok (.aload_n 0, 1) := by decide +kernel
theorem dX5_canBe_105 : decode cX5_canBe 105 = .ok (.iload_n 2, 1) := by decide +kernel
theorem dX5_canBe_106 : decode cX5_canBe 106 = .ok (.iload 6, 2) := by decide +kernel
theorem dX5_canBe_108 : decode cX5_canBe 108 = .ok (.iload 5, 2) := by decide +kernel
theorem dX5_canBe_110 : decode cX5_canBe 110 = .ok (.invokevirtual 296, 3) := by decide +kernel
theorem dX5_canBe_113 : decode cX5_canBe 113 = .ok (.ireturn, 1) := by decide +kernel
theorem dX5_canBe_114 : decode cX5_canBe 114 = .ok (.iload 7, 2) := by decide +kernel
theorem dX5_canBe_116 : decode cX5_canBe 116 = .ok (.ifCond .eq 23, 3) := by decide +kernel
theorem dX5_canBe_119 : decode cX5_canBe 119 = .ok (.aload_n 0, 1) := by decide +kernel
theorem dX5_canBe_120 : decode cX5_canBe 120 = .ok (.bipush 10, 2) := by decide +kernel
theorem dX5_canBe_122 : decode cX5_canBe 122 = .ok (.iload_n 2, 1) := by decide +kernel
theorem dX5_canBe_123 : decode cX5_canBe 123 = .ok (.imul, 1) := by decide +kernel
theorem dX5_canBe_124 : decode cX5_canBe 124 = .ok (.iload_n 3, 1) := by decide +kernel
theorem dX5_canBe_125 : decode cX5_canBe 125 = .ok (.iadd, 1) := by decide +kernel
theorem dX5_canBe_126 : decode cX5_canBe 126 = .ok (.bipush 9, 2) := by decide +kernel
theorem dX5_canBe_128 : decode cX5_canBe 128 = .ok (.isub, 1) := by decide +kernel
theorem dX5_canBe_129 : decode cX5_canBe 129 = .ok (.invokevirtual 299, 3) := by decide +kernel
theorem dX5_canBe_132 : decode cX5_canBe 132 = .ok (.ifCond .eq 7, 3) := by decide +kernel
theorem dX5_canBe_135 : decode cX5_canBe 135 = .ok (.iconst 1, 1) := by decide +kernel
theorem dX5_canBe_136 : decode cX5_canBe 136 = .ok (.goto 4, 3) := by decide +kernel
theorem dX5_canBe_139 : decode cX5_canBe 139 = .ok (.iconst 0, 1) := by decide +kernel
theorem dX5_canBe_140 : decode cX5_canBe 140 = .ok (.ireturn, 1) := by decide +kernel
theorem dX5_canBe_141 : decode cX5_canBe 141 = .ok (.iload 5, 2) := by decide +kernel
theorem dX5_canBe_143 : decode cX5_canBe 143 = .ok (.ifCond .ne 18, 3) := by decide +kernel
theorem dX5_canBe_146 : decode cX5_canBe 146 = .ok (.aload_n 0, 1) := by decide +kernel
theorem dX5_canBe_147 : decode cX5_canBe 147 = .ok (.iload_n 2, 1) := by decide +kernel
theorem dX5_canBe_148 : decode cX5_canBe 148 = .ok (.iload_n 3, 1) := by decide +kernel
theorem dX5_canBe_149 : decode cX5_canBe 149 = .ok (.iload 4, 2) := by decide +kernel
theorem dX5_canBe_151 : decode cX5_canBe 151 = .ok (.invokevirtual 302, 3) := by decide +kernel
theorem dX5_canBe_154 : decode cX5_canBe 154 = .ok (.ifCond .eq 7, 3) := by decide +kernel
theorem dX5_canBe_157 : decode cX5_canBe 157 = .ok (.iconst 1, 1) := by decide +kernel
theorem dX5_canBe_158 : decode cX5_canBe 158 = .ok (.goto 4, 3) := by decide +kernel
theorem dX5_canBe_161 : decode cX5_canBe 161 = .ok (.iconst 0, 1) := by decide +kernel
theorem dX5_canBe_162 : decode cX5_canBe 162 = .ok (.ireturn, 1) := by decide +kernel
theorem dX5_canBe_163 : decode cX5_canBe 163 = .ok (.iload 7, 2) := by decide +kernel
theorem dX5_canBe_165 : decode cX5_canBe 165 = .ok (.ifCond .eq 16, 3) := by decide +kernel
theorem dX5_canBe_168 : decode cX5_canBe 168 = .ok (.aload_n 0, 1) := by decide +kernel
theorem dX5_canBe_169 : decode cX5_canBe 169 = .ok (.iload_n 2, 1) := by decide +kernel
theorem dX5_canBe_170 : decode cX5_canBe 170 = .ok (.iload_n 3, 1) := by decide +kernel
theorem dX5_canBe_171 : decode cX5_canBe 171 = .ok (.invokevirtual 305, 3) := by decide +kernel
theorem dX5_canBe_174 : decode cX5_canBe 174 = .ok (.ifCond .eq 7, 3) := by decide +kernel
theorem dX5_canBe_177 : decode cX5_canBe 177 = .ok (.iconst 1, 1) := by decide +kernel
theorem dX5_canBe_178 : decode cX5_canBe 178 = .ok (.goto 4, 3) := by decide +kernel
theorem dX5_canBe_181 : decode cX5_canBe 181 = .ok (.iconst 0, 1) := by decide +kernel
theorem dX5_canBe_182 : decode cX5_canBe 182 = .ok (.ireturn, 1) := by decide +kernel
theorem dX5_canBe_183 : decode cX5_canBe 183 = .ok (.iload 7, 2) := by decide +kernel
theorem dX5_canBe_185 : decode cX5_canBe 185 = .ok (.ifCond .eq 20, 3) := by decide +kernel
theorem dX5_canBe_188 : decode cX5_canBe 188 = .ok (.aload_n 0, 1) := by decide +kernel
theorem dX5_canBe_189 : decode cX5_canBe 189 = .ok (.iload_n 2, 1) := by decide +kernel
theorem dX5_canBe_190 : decode cX5_canBe 190 = .ok (.iconst 1, 1) := by decide +kernel
theorem dX5_canBe_191 : decode cX5_canBe 191 = .ok (.isub, 1) := by decide +kernel
theorem dX5_canBe_192 : decode cX5_canBe 192 = .ok (.iload_n 3, 1) := by decide +kernel
theorem dX5_canBe_193 : decode cX5_canBe 193 = .ok (.iconst 1, 1) := by decide +kernel
theorem dX5_canBe_194 : decode cX5_canBe 194 = .ok (.isub, 1) := by decide +kernel
theorem dX5_canBe_195 : decode cX5_canBe 195 = .ok (.invokevirtual 308, 3) := by decide +kernel
theorem dX5_canBe_198 : decode cX5_canBe 198 = .ok (.ifCond .eq 7, 3) := by decide +kernel
theorem dX5_canBe_201 : decode cX5_canBe 201 = .ok (.iconst 1, 1) := by decide +kernel
theorem dX5_canBe_202 : decode cX5_canBe 202 = .ok (.goto 4, 3) := by decide +kernel
theorem dX5_canBe_205 : decode cX5_canBe 205 = .ok (.iconst 0, 1) := by decide +kernel
theorem dX5_canBe_206 : decode cX5_canBe 206 = .ok (.ireturn, 1) := by decide +kernel
theorem dX5_canBe_207 : decode cX5_canBe 207 = .ok (.iload_n 2, 1) := by decide +kernel
theorem dX5_canBe_208 : decode cX5_canBe 208 = .ok (.ifCond .ne 18, 3) := by decide +kernel
theorem dX5_canBe_211 : decode cX5_canBe 211 = .ok (.aload_n 0, 1) := by decide +kernel
theorem dX5_canBe_212 : decode cX5_canBe 212 = .ok (.iload 6, 2) := by decide +kernel
theorem dX5_canBe_214 : decode cX5_canBe 214 = .ok (.iload 5, 2) := by decide +kernel
theorem dX5_canBe_216 : decode cX5_canBe 216 = .ok (.invokevirtual 311, 3) := by decide +kernel
theorem dX5_canBe_219 : decode cX5_canBe 219 = .ok (.ifCond .eq 7, 3) := by decide +kernel
theorem dX5_canBe_222 : decode cX5_canBe 222 = .ok (.iconst 1, 1) := by decide +kernel
theorem dX5_canBe_223 : decode cX5_canBe 223 = .ok (.goto 4, 3) := by decide +kernel
theorem dX5_canBe_226 : decode cX5_canBe 226 = .ok (.iconst 0, 1) := by decide +kernel
theorem dX5_canBe_227 : decode cX5_canBe 227 = .ok (.ireturn, 1) := by decide +kernel
theorem dX5_canBe_228 : decode cX5_canBe 228 = .ok (.iload_n 2, 1) := by decide +kernel
theorem dX5_canBe_229 : decode cX5_canBe 229 = .ok (.ifCond .ne 29, 3) := by decide +kernel
theorem dX5_canBe_232 : decode cX5_canBe 232 = .ok (.iload 5, 2) := by decide +kernel
theorem dX5_canBe_234 : decode cX5_canBe 234 = .ok (.ifCond .ne 24, 3) := by decide +kernel
theorem dX5_canBe_237 : decode cX5_canBe 237 = .ok (.aload_n 0, 1) := by decide +kernel
theorem dX5_canBe_238 : decode cX5_canBe 238 = .ok (.getfield 35, 3) := by decide +kernel
theorem dX5_canBe_241 : decode cX5_canBe 241 = .ok (.aload_n 0, 1) := by decide +kernel
theorem dX5_canBe_242 : decode cX5_canBe 242 = .ok (.getfield 23, 3) := by decide +kernel
theorem dX5_canBe_245 : decode cX5_canBe 245 = .ok (.iconst 2, 1) := by decide +kernel
theorem dX5_canBe_246 : decode cX5_canBe 246 = .ok (.invokevirtual 96, 3) := by decide +kernel
theorem dX5_canBe_249 : decode cX5_canBe 249 = .ok (.iload 6, 2) := by decide +kernel
theorem dX5_canBe_251 : decode cX5_canBe 251 = .ok (.if_icmp .lt 7, 3) := by decide +kernel
theorem dX5_canBe_254 : decode cX5_canBe 254 = .ok (.iconst 1, 1) := by decide +kernel
theorem dX5_canBe_255 : decode cX5_canBe 255 = .ok (.goto 4, 3) := by decide +kernel
theorem dX5_canBe_258 : decode cX5_canBe 258 = .ok (.iconst 0, 1) := by decide +kernel
theorem dX5_canBe_259 : decode cX5_canBe 259 = .ok (.ireturn, 1) := by decide +kernel
theorem dX5_canBe_260 : decode cX5_canBe 260 = .ok (.iconst 0, 1) := by decide +kernel
theorem dX5_canBe_261 : decode cX5_canBe 261 = .ok (.ireturn, 1) := by decide +kernel
theorem dX5_canPaint_0 : decode cX5_canPaint 0 = .ok (.iload_n 1, 1) := by decide +kernel
theorem dX5_canPaint_1 : decode cX5_canPaint 1 = .ok (.invokestatic 127, 3) := by decide +kernel
theorem dX5_canPaint_4 : decode cX5_canPaint 4 = .ok (.ifCond .eq 25, 3) := by decide +kernel
theorem dX5_canPaint_7 : decode cX5_canPaint 7 = .ok (.aload_n 0, 1) := by decide +kernel
theorem dX5_canPaint_8 : decode cX5_canPaint 8 = .ok (.getfield 23, 3) := by decide +kernel
theorem dX5_canPaint_11 : decode cX5_canPaint 11 = .ok (.iload_n 2, 1) := by decide +kernel
theorem dX5_canPaint_12 : decode cX5_canPaint 12 = .ok (.invokevirtual 131, 3) := by decide +kernel
theorem dX5_canPaint_15 : decode cX5_canPaint 15 = .ok (.ifCond .eq 14, 3) := by decide +kernel
theorem dX5_canPaint_18 : decode cX5_canPaint 18 = .ok (.iload_n 3, 1) := by decide +kernel
theorem dX5_canPaint_19 : decode cX5_canPaint 19 = .ok (.invokestatic 137, 3) := by decide +kernel
theorem dX5_canPaint_22 : decode cX5_canPaint 22 = .ok (.ifCond .eq 7, 3) := by decide +kernel
theorem dX5_canPaint_25 : decode cX5_canPaint 25 = .ok (.iconst 1, 1) := by decide +kernel
theorem dX5_canPaint_26 : decode cX5_canPaint 26 = .ok (.goto 4, 3) := by decide +kernel
theorem dX5_canPaint_29 : decode cX5_canPaint 29 = .ok (.iconst 0, 1) := by decide +kernel
theorem dX5_canPaint_30 : decode cX5_canPaint 30 = .ok (.istore 4, 2) := by decide +kernel
theorem dX5_canPaint_32 : decode cX5_canPaint 32 = .ok (.iload 4, 2) := by decide +kernel
theorem dX5_canPaint_34 : decode cX5_canPaint 34 = .ok (.ifCond .eq 13, 3) := by decide +kernel
theorem dX5_canPaint_37 : decode cX5_canPaint 37 = .ok (.aload_n 0, 1) := by decide +kernel
theorem dX5_canPaint_38 : decode cX5_canPaint 38 = .ok (.getfield 23, 3) := by decide +kernel
theorem dX5_canPaint_41 : decode cX5_canPaint 41 = .ok (.iload_n 1, 1) := by decide +kernel
theorem dX5_canPaint_42 : decode cX5_canPaint 42 = .ok (.iload_n 2, 1) := by decide +kernel
theorem dX5_canPaint_43 : decode cX5_canPaint 43 = .ok (.iload_n 3, 1) := by decide +kernel
theorem dX5_canPaint_44 : decode cX5_canPaint 44 = .ok (.invokevirtual 189, 3) := by decide +kernel
theorem dX5_canPaint_47 : decode cX5_canPaint 47 = .ok (.iload 4, 2) := by decide +kernel
theorem dX5_canPaint_49 : decode cX5_canPaint 49 = .ok (.ireturn, 1) := by decide +kernel
theorem dX5_canLighten_0 : decode cX5_canLighten 0 = .ok (.iload_n 1, 1) := by decide +kernel
theorem dX5_canLighten_1 : decode cX5_canLighten 1 = .ok (.invokestatic 193, 3) := by decide +kernel
theorem dX5_canLighten_4 : decode cX5_canLighten 4 = .ok (.ifCond .eq 18, 3) := by decide +kernel
theorem dX5_canLighten_7 : decode cX5_canLighten 7 = .ok (.aload_n 0, 1) := by decide +kernel
theorem dX5_canLighten_8 : decode cX5_canLighten 8 = .ok (.getfield 23, 3) := by decide +kernel
theorem dX5_canLighten_11 : decode cX5_canLighten 11 = .ok (.iload_n 1, 1) := by decide +kernel
theorem dX5_canLighten_12 : decode cX5_canLighten 12 = .ok (.invokevirtual 196, 3) := by decide +kernel
theorem dX5_canLighten_15 : decode cX5_canLighten 15 = .ok (.ifCond .eq 7, 3) := by decide +kernel
theorem dX5_canLighten_18 : decode cX5_canLighten 18 = .ok (.iconst 1, 1) := by decide +kernel
theorem dX5_canLighten_19 : decode cX5_canLighten 19 = .ok (.goto 4, 3) := by decide +kernel
theorem dX5_canLighten_22 : decode cX5_canLighten 22 = .ok (.iconst 0, 1) := by decide +kernel
theorem dX5_canLighten_23 : decode cX5_canLighten 23 = .ok (.istore_n 2, 1) := by decide +kernel
theorem dX5_canLighten_24 : decode cX5_canLighten 24 = .ok (.iload_n 2, 1) := by decide +kernel
theorem dX5_canLighten_25 : decode cX5_canLighten 25 = .ok (.ifCond .eq 11, 3) := by decide +kernel
theorem dX5_canLighten_28 : decode cX5_canLighten 28 = .ok (.aload_n 0, 1) := by decide +kernel
theorem dX5_canLighten_29 : decode cX5_canLighten 29 = .ok (.getfield 23, 3) := by decide +kernel
theorem dX5_canLighten_32 : decode cX5_canLighten 32 = .ok (.iload_n 1, 1) := by decide +kernel
theorem dX5_canLighten_33 : decode cX5_canLighten 33 = .ok (.invokevirtual 199, 3) := by decide +kernel
theorem dX5_canLighten_36 : decode cX5_canLighten 36 = .ok (.iload_n 2, 1) := by decide +kernel
theorem dX5_canLighten_37 : decode cX5_canLighten 37 = .ok (.ireturn, 1) := by decide +kernel
theorem dX5_canRule_0 : decode cX5_canRule 0 = .ok (.iload_n 1, 1) := by decide +kernel
theorem dX5_canRule_1 : decode cX5_canRule 1 = .ok (.iload_n 2, 1) := by decide +kernel
theorem dX5_canRule_2 : decode cX5_canRule 2 = .ok (.iload_n 3, 1) := by decide +kernel
theorem dX5_canRule_3 : decode cX5_canRule 3 = .ok (.invokestatic 203, 3) := by decide +kernel
theorem dX5_canRule_6 : decode cX5_canRule 6 = .ok (.istore 4, 2) := by decide +kernel
theorem dX5_canRule_8 : decode cX5_canRule 8 = .ok (.iload 4, 2) := by decide +kernel
theorem dX5_canRule_10 : decode cX5_canRule 10 = .ok (.ifCond .eq 13, 3) := by decide +kernel
theorem dX5_canRule_13 : decode cX5_canRule 13 = .ok (.aload_n 0, 1) := by decide +kernel
theorem dX5_canRule_14 : decode cX5_canRule 14 = .ok (.getfield 23, 3) := by decide +kernel
theorem dX5_canRule_17 : decode cX5_canRule 17 = .ok (.iload_n 1, 1) := by decide +kernel
theorem dX5_canRule_18 : decode cX5_canRule 18 = .ok (.iload_n 2, 1) := by decide +kernel
theorem dX5_canRule_19 : decode cX5_canRule 19 = .ok (.iload_n 3, 1) := by decide +kernel
theorem dX5_canRule_20 : decode cX5_canRule 20 = .ok (.invokevirtual 207, 3) := by decide +kernel
theorem dX5_canRule_23 : decode cX5_canRule 23 = .ok (.iload 4, 2) := by decide +kernel
theorem dX5_canRule_25 : decode cX5_canRule 25 = .ok (.ireturn, 1) := by decide +kernel
theorem dX5_canTable_0 : decode cX5_canTable 0 = .ok (.iload_n 1, 1) := by decide +kernel
theorem dX5_canTable_1 : decode cX5_canTable 1 = .ok (.invokestatic 137, 3) := by decide +kernel
theorem dX5_canTable_4 : decode cX5_canTable 4 = .ok (.ifCond .eq 14, 3) := by decide +kernel
theorem dX5_canTable_7 : decode cX5_canTable 7 = .ok (.iload_n 2, 1) := by decide +kernel
theorem dX5_canTable_8 : decode cX5_canTable 8 = .ok (.invokestatic 137, 3) := by decide +kernel
theorem dX5_canTable_11 : decode cX5_canTable 11 = .ok (.ifCond .eq 7, 3) := by decide +kernel
theorem dX5_canTable_14 : decode cX5_canTable 14 = .ok (.iconst 1, 1) := by decide +kernel
theorem dX5_canTable_15 : decode cX5_canTable 15 = .ok (.goto 4, 3) := by decide +kernel
theorem dX5_canTable_18 : decode cX5_canTable 18 = .ok (.iconst 0, 1) := by decide +kernel
theorem dX5_canTable_19 : decode cX5_canTable 19 = .ok (.istore_n 3, 1) := by decide +kernel
theorem dX5_canTable_20 : decode cX5_canTable 20 = .ok (.iload_n 3, 1) := by decide +kernel
theorem dX5_canTable_21 : decode cX5_canTable 21 = .ok (.ifCond .eq 12, 3) := by decide +kernel
theorem dX5_canTable_24 : decode cX5_canTable 24 = .ok (.aload_n 0, 1) := by decide +kernel
theorem dX5_canTable_25 : decode cX5_canTable 25 = .ok (.getfield 23, 3) := by decide +kernel
theorem dX5_canTable_28 : decode cX5_canTable 28 = .ok (.iload_n 1, 1) := by decide +kernel
theorem dX5_canTable_29 : decode cX5_canTable 29 = .ok (.iload_n 2, 1) := by decide +kernel
theorem dX5_canTable_30 : decode cX5_canTable 30 = .ok (.invokevirtual 210, 3) := by decide +kernel
theorem dX5_canTable_33 : decode cX5_canTable 33 = .ok (.iload_n 3, 1) := by decide +kernel
theorem dX5_canTable_34 : decode cX5_canTable 34 = .ok (.ireturn, 1) := by decide +kernel
theorem dX5_canLay_0 : decode cX5_canLay 0 = .ok (.iload_n 1, 1) := by decide +kernel
theorem dX5_canLay_1 : decode cX5_canLay 1 = .ok (.iload_n 2, 1) := by decide +kernel
theorem dX5_canLay_2 : decode cX5_canLay 2 = .ok (.invokestatic 214, 3) := by decide +kernel
theorem dX5_canLay_5 : decode cX5_canLay 5 = .ok (.istore_n 3, 1) := by decide +kernel
theorem dX5_canLay_6 : decode cX5_canLay 6 = .ok (.iload_n 3, 1) := by decide +kernel
theorem dX5_canLay_7 : decode cX5_canLay 7 = .ok (.ifCond .eq 12, 3) := by decide +kernel
theorem dX5_canLay_10 : decode cX5_canLay 10 = .ok (.aload_n 0, 1) := by decide +kernel
theorem dX5_canLay_11 : decode cX5_canLay 11 = .ok (.getfield 23, 3) := by decide +kernel
theorem dX5_canLay_14 : decode cX5_canLay 14 = .ok (.iload_n 1, 1) := by decide +kernel
theorem dX5_canLay_15 : decode cX5_canLay 15 = .ok (.iload_n 2, 1) := by decide +kernel
theorem dX5_canLay_16 : decode cX5_canLay 16 = .ok (.invokevirtual 218, 3) := by decide +kernel
theorem dX5_canLay_19 : decode cX5_canLay 19 = .ok (.iload_n 3, 1) := by decide +kernel
theorem dX5_canLay_20 : decode cX5_canLay 20 = .ok (.ireturn, 1) := by decide +kernel
theorem dX5_isSoMarked_0 : decode cX5_isSoMarked 0 = .ok (.aload_n 0, 1) := by decide +kernel
theorem dX5_isSoMarked_1 : decode cX5_isSoMarked 1 = .ok (.getfield 23, 3) := by decide +kernel
theorem dX5_isSoMarked_4 : decode cX5_isSoMarked 4 = .ok (.iload_n 1, 1) := by decide +kernel
theorem dX5_isSoMarked_5 : decode cX5_isSoMarked 5 = .ok (.invokevirtual 131, 3) := by decide +kernel
theorem dX5_isSoMarked_8 : decode cX5_isSoMarked 8 = .ok (.ifCond .eq 8, 3) := by decide +kernel
theorem dX5_isSoMarked_11 : decode cX5_isSoMarked 11 = .ok (.iload_n 2, 1) := by decide +kernel
theorem dX5_isSoMarked_12 : decode cX5_isSoMarked 12 = .ok (.iconst 1, 1) := by decide +kernel
theorem dX5_isSoMarked_13 : decode cX5_isSoMarked 13 = .ok (.if_icmp .le 5, 3) := by decide +kernel
theorem dX5_isSoMarked_16 : decode cX5_isSoMarked 16 = .ok (.iconst 0, 1) := by decide +kernel
theorem dX5_isSoMarked_17 : decode cX5_isSoMarked 17 = .ok (.ireturn, 1) := by decide +kernel
theorem dX5_isSoMarked_18 : decode cX5_isSoMarked 18 = .ok (.aload_n 0, 1) := by decide +kernel
theorem dX5_isSoMarked_19 : decode cX5_isSoMarked 19 = .ok (.getfield 35, 3) := by decide +kernel
theorem dX5_isSoMarked_22 : decode cX5_isSoMarked 22 = .ok (.aload_n 0, 1) := by decide +kernel
theorem dX5_isSoMarked_23 : decode cX5_isSoMarked 23 = .ok (.getfield 23, 3) := by decide +kernel
theorem dX5_isSoMarked_26 : decode cX5_isSoMarked 26 = .ok (.iload_n 1, 1) := by decide +kernel
theorem dX5_isSoMarked_27 : decode cX5_isSoMarked 27 = .ok (.aload_n 0, 1) := by decide +kernel
theorem dX5_isSoMarked_28 : decode cX5_isSoMarked 28 = .ok (.getfield 23, 3) := by decide +kernel
theorem dX5_isSoMarked_31 : decode cX5_isSoMarked 31 = .ok (.getfield 106, 3) := by decide +kernel
theorem dX5_isSoMarked_34 : decode cX5_isSoMarked 34 = .ok (.invokevirtual 143, 3) := by decide +kernel
theorem dX5_isSoMarked_37 : decode cX5_isSoMarked 37 = .ok (.aload_n 0, 1) := by decide +kernel
theorem dX5_isSoMarked_38 : decode cX5_isSoMarked 38 = .ok (.getfield 35, 3) := by decide +kernel
theorem dX5_isSoMarked_41 : decode cX5_isSoMarked 41 = .ok (.iload_n 1, 1) := by decide +kernel
theorem dX5_isSoMarked_42 : decode cX5_isSoMarked 42 = .ok (.aload_n 0, 1) := by decide +kernel
theorem dX5_isSoMarked_43 : decode cX5_isSoMarked 43 = .ok (.getfield 23, 3) := by decide +kernel
theorem dX5_isSoMarked_46 : decode cX5_isSoMarked 46 = .ok (.getfield 109, 3) := by decide +kernel
theorem dX5_isSoMarked_49 : decode cX5_isSoMarked 49 = .ok (.invokevirtual 163, 3) := by decide +kernel
theorem dX5_isSoMarked_52 : decode cX5_isSoMarked 52 = .ok (.iconst 2, 1) := by decide +kernel
theorem dX5_isSoMarked_53 : decode cX5_isSoMarked 53 = .ok (.if_icmp .ne 7, 3) := by decide +kernel
theorem dX5_isSoMarked_56 : decode cX5_isSoMarked 56 = .ok (.iconst 1, 1) := by decide +kernel
theorem dX5_isSoMarked_57 : decode cX5_isSoMarked 57 = .ok (.goto 4, 3) := by decide +kernel
theorem dX5_isSoMarked_60 : decode cX5_isSoMarked 60 = .ok (.iconst 0, 1) := by decide +kernel
theorem dX5_isSoMarked_61 : decode cX5_isSoMarked 61 = .ok (.istore_n 3, 1) := by decide +kernel
theorem dX5_isSoMarked_62 : decode cX5_isSoMarked 62 = .ok (.iload_n 3, 1) := by decide +kernel
theorem dX5_isSoMarked_63 : decode cX5_isSoMarked 63 = .ok (.iload_n 2, 1) := by decide +kernel
theorem dX5_isSoMarked_64 : decode cX5_isSoMarked 64 = .ok (.iconst 1, 1) := by decide +kernel
theorem dX5_isSoMarked_65 : decode cX5_isSoMarked 65 = .ok (.if_icmp .ne 7, 3) := by decide +kernel
theorem dX5_isSoMarked_68 : decode cX5_isSoMarked 68 = .ok (.iconst 1, 1) := by decide +kernel
theorem dX5_isSoMarked_69 : decode cX5_isSoMarked 69 = .ok (.goto 4, 3) := by decide +kernel
theorem dX5_isSoMarked_72 : decode cX5_isSoMarked 72 = .ok (.iconst 0, 1) := by decide +kernel
theorem dX5_isSoMarked_73 : decode cX5_isSoMarked 73 = .ok (.if_icmp .ne 7, 3) := by decide +kernel
theorem dX5_isSoMarked_76 : decode cX5_isSoMarked 76 = .ok (.iconst 1, 1) := by decide +kernel
theorem dX5_isSoMarked_77 : decode cX5_isSoMarked 77 = .ok (.goto 4, 3) := by decide +kernel
theorem dX5_isSoMarked_80 : decode cX5_isSoMarked 80 = .ok (.iconst 0, 1) := by decide +kernel
theorem dX5_isSoMarked_81 : decode cX5_isSoMarked 81 = .ok (.ireturn, 1) := by decide +kernel
theorem dX5_fraction_0 : decode cX5_fraction 0 = .ok (.iload_n 0, 1) := by decide +kernel
theorem dX5_fraction_1 : decode cX5_fraction 1 = .ok (.invokestatic 314, 3) := by decide +kernel
theorem dX5_fraction_4 : decode cX5_fraction 4 = .ok (.iload_n 1, 1) := by decide +kernel
theorem dX5_fraction_5 : decode cX5_fraction 5 = .ok (.invokestatic 319, 3) := by decide +kernel
theorem dX5_fraction_8 : decode cX5_fraction 8 = .ok (.istore_n 3, 1) := by decide +kernel
theorem dX5_fraction_9 : decode cX5_fraction 9 = .ok (.iload_n 3, 1) := by decide +kernel
theorem dX5_fraction_10 : decode cX5_fraction 10 = .ok (.ifCond .ne 5, 3) := by decide +kernel
theorem dX5_fraction_13 : decode cX5_fraction 13 = .ok (.iconst 0, 1) := by decide +kernel
theorem dX5_fraction_14 : decode cX5_fraction 14 = .ok (.ireturn, 1) := by decide +kernel
theorem dX5_fraction_15 : decode cX5_fraction 15 = .ok (.iload_n 2, 1) := by decide +kernel
theorem dX5_fraction_16 : decode cX5_fraction 16 = .ok (.ifCond .eq 9, 3) := by decide +kernel
theorem dX5_fraction_19 : decode cX5_fraction 19 = .ok (.iload_n 0, 1) := by decide +kernel
theorem dX5_fraction_20 : decode cX5_fraction 20 = .ok (.iload_n 3, 1) := by decide +kernel
theorem dX5_fraction_21 : decode cX5_fraction 21 = .ok (.idiv, 1) := by decide +kernel
theorem dX5_fraction_22 : decode cX5_fraction 22 = .ok (.goto 6, 3) := by decide +kernel
theorem dX5_fraction_25 : decode cX5_fraction 25 = .ok (.iload_n 1, 1) := by decide +kernel
theorem dX5_fraction_26 : decode cX5_fraction 26 = .ok (.iload_n 3, 1) := by decide +kernel
theorem dX5_fraction_27 : decode cX5_fraction 27 = .ok (.idiv, 1) := by decide +kernel
theorem dX5_fraction_28 : decode cX5_fraction 28 = .ok (.ireturn, 1) := by decide +kernel
theorem dX5_commonDivisor_0 : decode cX5_commonDivisor 0 = .ok (.iload_n 0, 1) := by decide +kernel
theorem dX5_commonDivisor_1 : decode cX5_commonDivisor 1 = .ok (.istore_n 2, 1) := by decide +kernel
theorem dX5_commonDivisor_2 : decode cX5_commonDivisor 2 = .ok (.iload_n 1, 1) := by decide +kernel
theorem dX5_commonDivisor_3 : decode cX5_commonDivisor 3 = .ok (.istore_n 3, 1) := by decide +kernel
theorem dX5_commonDivisor_4 : decode cX5_commonDivisor 4 = .ok (.iconst 0, 1) := by decide +kernel
theorem dX5_commonDivisor_5 : decode cX5_commonDivisor 5 = .ok (.istore 4, 2) := by decide +kernel
theorem dX5_commonDivisor_7 : decode cX5_commonDivisor 7 = .ok (.iload 4, 2) := by decide +kernel
theorem dX5_commonDivisor_9 : decode cX5_commonDivisor 9 = .ok (.bipush 64, 2) := by decide +kernel
theorem dX5_commonDivisor_11 : decode cX5_commonDivisor 11 = .ok (.if_icmp .ge 23, 3) := by decide +kernel
theorem dX5_commonDivisor_14 : decode cX5_commonDivisor 14 = .ok (.iload_n 3, 1) := by decide +kernel
theorem dX5_commonDivisor_15 : decode cX5_commonDivisor 15 = .ok (.ifCond .eq 19, 3) := by decide +kernel
theorem dX5_commonDivisor_18 : decode cX5_commonDivisor 18 = .ok (.iload_n 2, 1) := by decide +kernel
theorem dX5_commonDivisor_19 : decode cX5_commonDivisor 19 = .ok (.iload_n 3, 1) := by decide +kernel
theorem dX5_commonDivisor_20 : decode cX5_commonDivisor 20 = .ok (.irem, 1) := by decide +kernel
theorem dX5_commonDivisor_21 : decode cX5_commonDivisor 21 = .ok (.istore 5, 2) := by decide +kernel
theorem dX5_commonDivisor_23 : decode cX5_commonDivisor 23 = .ok (.iload_n 3, 1) := by decide +kernel
theorem dX5_commonDivisor_24 : decode cX5_commonDivisor 24 = .ok (.istore_n 2, 1) := by decide +kernel
theorem dX5_commonDivisor_25 : decode cX5_commonDivisor 25 = .ok (.iload 5, 2) := by decide +kernel
theorem dX5_commonDivisor_27 : decode cX5_commonDivisor 27 = .ok (.istore_n 3, 1) := by decide +kernel
theorem dX5_commonDivisor_28 : decode cX5_commonDivisor 28 = .ok (.iinc 4 1, 3) := by decide +kernel
theorem dX5_commonDivisor_31 : decode cX5_commonDivisor 31 = .ok (.goto (-24), 3) := by decide +kernel
theorem dX5_commonDivisor_34 : decode cX5_commonDivisor 34 = .ok (.iload_n 2, 1) := by decide +kernel
theorem dX5_commonDivisor_35 : decode cX5_commonDivisor 35 = .ok (.ireturn, 1) := by decide +kernel
theorem dX5_remainder_0 : decode cX5_remainder 0 = .ok (.iload_n 1, 1) := by decide +kernel
theorem dX5_remainder_1 : decode cX5_remainder 1 = .ok (.ifCond .ne 7, 3) := by decide +kernel
theorem dX5_remainder_4 : decode cX5_remainder 4 = .ok (.iconst 0, 1) := by decide +kernel
theorem dX5_remainder_5 : decode cX5_remainder 5 = .ok (.goto 6, 3) := by decide +kernel
theorem dX5_remainder_8 : decode cX5_remainder 8 = .ok (.iload_n 0, 1) := by decide +kernel
theorem dX5_remainder_9 : decode cX5_remainder 9 = .ok (.iload_n 1, 1) := by decide +kernel
theorem dX5_remainder_10 : decode cX5_remainder 10 = .ok (.irem, 1) := by decide +kernel
theorem dX5_remainder_11 : decode cX5_remainder 11 = .ok (.ireturn, 1) := by decide +kernel
theorem dX5_factorial_0 : decode cX5_factorial 0 = .ok (.iload_n 0, 1) := by decide +kernel
theorem dX5_factorial_1 : decode cX5_factorial 1 = .ok (.ifCond .lt 19, 3) := by decide +kernel
theorem dX5_factorial_4 : decode cX5_factorial 4 = .ok (.iload_n 0, 1) := by decide +kernel
theorem dX5_factorial_5 : decode cX5_factorial 5 = .ok (.getstatic 322, 3) := by decide +kernel
theorem dX5_factorial_8 : decode cX5_factorial 8 = .ok (.arraylength, 1) := by decide +kernel
theorem dX5_factorial_9 : decode cX5_factorial 9 = .ok (.if_icmp .ge 11, 3) := by decide +kernel
theorem dX5_factorial_12 : decode cX5_factorial 12 = .ok (.getstatic 322, 3) := by decide +kernel
theorem dX5_factorial_15 : decode cX5_factorial 15 = .ok (.iload_n 0, 1) := by decide +kernel
theorem dX5_factorial_16 : decode cX5_factorial 16 = .ok (.iaload, 1) := by decide +kernel
theorem dX5_factorial_17 : decode cX5_factorial 17 = .ok (.goto 4, 3) := by decide +kernel
theorem dX5_factorial_20 : decode cX5_factorial 20 = .ok (.iconst 0, 1) := by decide +kernel
theorem dX5_factorial_21 : decode cX5_factorial 21 = .ok (.ireturn, 1) := by decide +kernel
theorem dX5_power_0 : decode cX5_power 0 = .ok (.iconst 1, 1) := by decide +kernel
theorem dX5_power_1 : decode cX5_power 1 = .ok (.istore_n 2, 1) := by decide +kernel
theorem dX5_power_2 : decode cX5_power 2 = .ok (.iconst 0, 1) := by decide +kernel
theorem dX5_power_3 : decode cX5_power 3 = .ok (.istore_n 3, 1) := by decide +kernel
theorem dX5_power_4 : decode cX5_power 4 = .ok (.iload_n 3, 1) := by decide +kernel
theorem dX5_power_5 : decode cX5_power 5 = .ok (.iload_n 1, 1) := by decide +kernel
theorem dX5_power_6 : decode cX5_power 6 = .ok (.if_icmp .ge 13, 3) := by decide +kernel
theorem dX5_power_9 : decode cX5_power 9 = .ok (.iload_n 2, 1) := by decide +kernel
theorem dX5_power_10 : decode cX5_power 10 = .ok (.iload_n 0, 1) := by decide +kernel
theorem dX5_power_11 : decode cX5_power 11 = .ok (.imul, 1) := by decide +kernel
theorem dX5_power_12 : decode cX5_power 12 = .ok (.istore_n 2, 1) := by decide +kernel
theorem dX5_power_13 : decode cX5_power 13 = .ok (.iinc 3 1, 3) := by decide +kernel
theorem dX5_power_16 : decode cX5_power 16 = .ok (.goto (-12), 3) := by decide +kernel
theorem dX5_power_19 : decode cX5_power 19 = .ok (.iload_n 2, 1) := by decide +kernel
theorem dX5_power_20 : decode cX5_power 20 = .ok (.ireturn, 1) := by decide +kernel
