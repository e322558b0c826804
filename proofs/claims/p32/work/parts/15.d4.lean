theorem dX9_correct_34 : decode cX9_correct 34 = .ok (.invokevirtual 255, 3) := by decide +kernel
theorem dX9_correct_37 : decode cX9_correct 37 = .ok (.aload_n 0, 1) := by decide +kernel
theorem dX9_correct_38 : decode cX9_correct 38 = .ok (.dup, 1) := by decide +kernel
theorem dX9_correct_39 : decode cX9_correct 39 = .ok (.getfield 96, 3) := by decide +kernel
theorem dX9_correct_42 : decode cX9_correct 42 = .ok (.iconst 1, 1) := by decide +kernel
theorem dX9_correct_43 : decode cX9_correct 43 = .ok (.iadd, 1) := by decide +kernel
theorem dX9_correct_44 : decode cX9_correct 44 = .ok (.putfield 96, 3) := by decide +kernel
theorem dX9_correct_47 : decode cX9_correct 47 = .ok (.aload_n 0, 1) := by decide +kernel
theorem dX9_correct_48 : decode cX9_correct 48 = .ok (.getfield 76, 3) := by decide +kernel
theorem dX9_correct_51 : decode cX9_correct 51 = .ok (.iload_n 1, 1) := by decide +kernel
theorem dX9_correct_52 : decode cX9_correct 52 = .ok (.aload_n 0, 1) := by decide +kernel
theorem dX9_correct_53 : decode cX9_correct 53 = .ok (.getfield 54, 3) := by decide +kernel
theorem dX9_correct_56 : decode cX9_correct 56 = .ok (.getfield 277, 3) := by decide +kernel
theorem dX9_correct_59 : decode cX9_correct 59 = .ok (.iload_n 1, 1) := by decide +kernel
theorem dX9_correct_60 : decode cX9_correct 60 = .ok (.aaload, 1) := by decide +kernel
theorem dX9_correct_61 : decode cX9_correct 61 = .ok (.invokevirtual 304, 3) := by decide +kernel
theorem dX9_correct_64 : decode cX9_correct 64 = .ok (.ireturn, 1) := by decide +kernel
theorem dX9_end_0 : decode cX9_end 0 = .ok (.aload_n 0, 1) := by decide +kernel
theorem dX9_end_1 : decode cX9_end 1 = .ok (.iconst 2, 1) := by decide +kernel
theorem dX9_end_2 : decode cX9_end 2 = .ok (.invokevirtual 114, 3) := by decide +kernel
theorem dX9_end_5 : decode cX9_end 5 = .ok (.aload_n 0, 1) := by decide +kernel
theorem dX9_end_6 : decode cX9_end 6 = .ok (.getfield 76, 3) := by decide +kernel
theorem dX9_end_9 : decode cX9_end 9 = .ok (.getfield 291, 3) := by decide +kernel
theorem dX9_end_12 : decode cX9_end 12 = .ok (.aload_n 0, 1) := by decide +kernel
theorem dX9_end_13 : decode cX9_end 13 = .ok (.getfield 38, 3) := by decide +kernel
theorem dX9_end_16 : decode cX9_end 16 = .ok (.getfield 118, 3) := by decide +kernel
theorem dX9_end_19 : decode cX9_end 19 = .ok (.if_icmp .lt 14, 3) := by decide +kernel
theorem dX9_end_22 : decode cX9_end 22 = .ok (.aload_n 0, 1) := by decide +kernel
theorem dX9_end_23 : decode cX9_end 23 = .ok (.getfield 76, 3) := by decide +kernel
theorem dX9_end_26 : decode cX9_end 26 = .ok (.invokevirtual 288, 3) := by decide +kernel
theorem dX9_end_29 : decode cX9_end 29 = .ok (.iconst (-1), 1) := by decide +kernel
theorem dX9_end_30 : decode cX9_end 30 = .ok (.if_icmp .eq 14, 3) := by decide +kernel
theorem dX9_end_33 : decode cX9_end 33 = .ok (.new 121, 3) := by decide +kernel
theorem dX9_end_36 : decode cX9_end 36 = .ok (.dup, 1) := by decide +kernel
theorem dX9_end_37 : decode cX9_end 37 = .ok (.ldc_w 308, 3) := by decide +kernel
theorem dX9_end_40 : decode cX9_end 40 = .ok (.invokespecial 125, 3) := by decide +kernel
theorem dX9_end_43 : decode cX9_end 43 = .ok (.athrow, 1) := by decide +kernel
theorem dX9_end_44 : decode cX9_end 44 = .ok (.aload_n 0, 1) := by decide +kernel
theorem dX9_end_45 : decode cX9_end 45 = .ok (.invokevirtual 255, 3) := by decide +kernel
theorem dX9_end_48 : decode cX9_end 48 = .ok (.aload_n 0, 1) := by decide +kernel
theorem dX9_end_49 : decode cX9_end 49 = .ok (.iconst 3, 1) := by decide +kernel
theorem dX9_end_50 : decode cX9_end 50 = .ok (.putfield 84, 3) := by decide +kernel
theorem dX9_end_53 : decode cX9_end 53 = .ok (.aload_n 0, 1) := by decide +kernel
theorem dX9_end_54 : decode cX9_end 54 = .ok (.aload_n 0, 1) := by decide +kernel
theorem dX9_end_55 : decode cX9_end 55 = .ok (.getfield 67, 3) := by decide +kernel
theorem dX9_end_58 : decode cX9_end 58 = .ok (.iconst 0, 1) := by decide +kernel
theorem dX9_end_59 : decode cX9_end 59 = .ok (.invokevirtual 310, 3) := by decide +kernel
theorem dX9_end_62 : decode cX9_end 62 = .ok (.putfield 87, 3) := by decide +kernel
theorem dX9_end_65 : decode cX9_end 65 = .ok (.aload_n 0, 1) := by decide +kernel
theorem dX9_end_66 : decode cX9_end 66 = .ok (.getfield 87, 3) := by decide +kernel
theorem dX9_end_69 : decode cX9_end 69 = .ok (.iconst (-1), 1) := by decide +kernel
theorem dX9_end_70 : decode cX9_end 70 = .ok (.if_icmp .eq 36, 3) := by decide +kernel
theorem dX9_end_73 : decode cX9_end 73 = .ok (.aload_n 0, 1) := by decide +kernel
theorem dX9_end_74 : decode cX9_end 74 = .ok (.getfield 38, 3) := by decide +kernel
theorem dX9_end_77 : decode cX9_end 77 = .ok (.getfield 169, 3) := by decide +kernel
theorem dX9_end_80 : decode cX9_end 80 = .ok (.aload_n 0, 1) := by decide +kernel
theorem dX9_end_81 : decode cX9_end 81 = .ok (.getfield 87, 3) := by decide +kernel
theorem dX9_end_84 : decode cX9_end 84 = .ok (.dup2, 1) := by decide +kernel
theorem dX9_end_85 : decode cX9_end 85 = .ok (.iaload, 1) := by decide +kernel
theorem dX9_end_86 : decode cX9_end 86 = .ok (.bipush 50, 2) := by decide +kernel
theorem dX9_end_88 : decode cX9_end 88 = .ok (.iadd, 1) := by decide +kernel
theorem dX9_end_89 : decode cX9_end 89 = .ok (.iastore, 1) := by decide +kernel
theorem dX9_end_90 : decode cX9_end 90 = .ok (.aload_n 0, 1) := by decide +kernel
theorem dX9_end_91 : decode cX9_end 91 = .ok (.getfield 38, 3) := by decide +kernel
theorem dX9_end_94 : decode cX9_end 94 = .ok (.getfield 313, 3) := by decide +kernel
theorem dX9_end_97 : decode cX9_end 97 = .ok (.aload_n 0, 1) := by decide +kernel
theorem dX9_end_98 : decode cX9_end 98 = .ok (.getfield 87, 3) := by decide +kernel
theorem dX9_end_101 : decode cX9_end 101 = .ok (.dup2, 1) := by decide +kernel
theorem dX9_end_102 : decode cX9_end 102 = .ok (.iaload, 1) := by decide +kernel
theorem dX9_end_103 : decode cX9_end 103 = .ok (.iconst 1, 1) := by decide +kernel
theorem dX9_end_104 : decode cX9_end 104 = .ok (.iadd, 1) := by decide +kernel
theorem dX9_end_105 : decode cX9_end 105 = .ok (.iastore, 1) := by decide +kernel
theorem dX9_end_106 : decode cX9_end 106 = .ok (.aload_n 0, 1) := by decide +kernel
theorem dX9_end_107 : decode cX9_end 107 = .ok (.aload_n 0, 1) := by decide +kernel
theorem dX9_end_108 : decode cX9_end 108 = .ok (.invokevirtual 316, 3) := by decide +kernel
theorem dX9_end_111 : decode cX9_end 111 = .ok (.putfield 93, 3) := by decide +kernel
theorem dX9_end_114 : decode cX9_end 114 = .ok (.aload_n 0, 1) := by decide +kernel
theorem dX9_end_115 : decode cX9_end 115 = .ok (.getfield 93, 3) := by decide +kernel
theorem dX9_end_118 : decode cX9_end 118 = .ok (.iconst (-1), 1) := by decide +kernel
theorem dX9_end_119 : decode cX9_end 119 = .ok (.if_icmp .eq 36, 3) := by decide +kernel
theorem dX9_end_122 : decode cX9_end 122 = .ok (.aload_n 0, 1) := by decide +kernel
theorem dX9_end_123 : decode cX9_end 123 = .ok (.getfield 38, 3) := by decide +kernel
theorem dX9_end_126 : decode cX9_end 126 = .ok (.getfield 169, 3) := by decide +kernel
theorem dX9_end_129 : decode cX9_end 129 = .ok (.aload_n 0, 1) := by decide +kernel
theorem dX9_end_130 : decode cX9_end 130 = .ok (.getfield 93, 3) := by decide +kernel
theorem dX9_end_133 : decode cX9_end 133 = .ok (.dup2, 1) := by decide +kernel
theorem dX9_end_134 : decode cX9_end 134 = .ok (.iaload, 1) := by decide +kernel
theorem dX9_end_135 : decode cX9_end 135 = .ok (.bipush 60, 2) := by decide +kernel
theorem dX9_end_137 : decode cX9_end 137 = .ok (.isub, 1) := by decide +kernel
theorem dX9_end_138 : decode cX9_end 138 = .ok (.iastore, 1) := by decide +kernel
theorem dX9_end_139 : decode cX9_end 139 = .ok (.aload_n 0, 1) := by decide +kernel
theorem dX9_end_140 : decode cX9_end 140 = .ok (.getfield 38, 3) := by decide +kernel
theorem dX9_end_143 : decode cX9_end 143 = .ok (.getfield 319, 3) := by decide +kernel
theorem dX9_end_146 : decode cX9_end 146 = .ok (.aload_n 0, 1) := by decide +kernel
theorem dX9_end_147 : decode cX9_end 147 = .ok (.getfield 93, 3) := by decide +kernel
theorem dX9_end_150 : decode cX9_end 150 = .ok (.dup2, 1) := by decide +kernel
theorem dX9_end_151 : decode cX9_end 151 = .ok (.iaload, 1) := by decide +kernel
theorem dX9_end_152 : decode cX9_end 152 = .ok (.iconst 1, 1) := by decide +kernel
theorem dX9_end_153 : decode cX9_end 153 = .ok (.iadd, 1) := by decide +kernel
theorem dX9_end_154 : decode cX9_end 154 = .ok (.iastore, 1) := by decide +kernel
theorem dX9_end_155 : decode cX9_end 155 = .ok (.aload_n 0, 1) := by decide +kernel
theorem dX9_end_156 : decode cX9_end 156 = .ok (.getfield 87, 3) := by decide +kernel
theorem dX9_end_159 : decode cX9_end 159 = .ok (.ireturn, 1) := by decide +kernel
theorem dX9_next_0 : decode cX9_next 0 = .ok (.aload_n 0, 1) := by decide +kernel
theorem dX9_next_1 : decode cX9_next 1 = .ok (.iconst 3, 1) := by decide +kernel
theorem dX9_next_2 : decode cX9_next 2 = .ok (.invokevirtual 114, 3) := by decide +kernel
theorem dX9_next_5 : decode cX9_next 5 = .ok (.aload_n 0, 1) := by decide +kernel
theorem dX9_next_6 : decode cX9_next 6 = .ok (.getfield 80, 3) := by decide +kernel
theorem dX9_next_9 : decode cX9_next 9 = .ok (.bipush 20, 2) := by decide +kernel
theorem dX9_next_11 : decode cX9_next 11 = .ok (.if_icmp .lt 14, 3) := by decide +kernel
theorem dX9_next_14 : decode cX9_next 14 = .ok (.new 121, 3) := by decide +kernel
theorem dX9_next_17 : decode cX9_next 17 = .ok (.dup, 1) := by decide +kernel
theorem dX9_next_18 : decode cX9_next 18 = .ok (.ldc_w 322, 3) := by decide +kernel
theorem dX9_next_21 : decode cX9_next 21 = .ok (.invokespecial 125, 3) := by decide +kernel
theorem dX9_next_24 : decode cX9_next 24 = .ok (.athrow, 1) := by decide +kernel
theorem dX9_next_25 : decode cX9_next 25 = .ok (.aload_n 0, 1) := by decide +kernel
theorem dX9_next_26 : decode cX9_next 26 = .ok (.dup, 1) := by decide +kernel
theorem dX9_next_27 : decode cX9_next 27 = .ok (.getfield 80, 3) := by decide +kernel
theorem dX9_next_30 : decode cX9_next 30 = .ok (.iconst 1, 1) := by decide +kernel
theorem dX9_next_31 : decode cX9_next 31 = .ok (.iadd, 1) := by decide +kernel
theorem dX9_next_32 : decode cX9_next 32 = .ok (.putfield 80, 3) := by decide +kernel
theorem dX9_next_35 : decode cX9_next 35 = .ok (.aload_n 0, 1) := by decide +kernel
theorem dX9_next_36 : decode cX9_next 36 = .ok (.iconst 0, 1) := by decide +kernel
theorem dX9_next_37 : decode cX9_next 37 = .ok (.putfield 84, 3) := by decide +kernel
theorem dX9_next_40 : decode cX9_next 40 = .ok (.aload_n 0, 1) := by decide +kernel
theorem dX9_next_41 : decode cX9_next 41 = .ok (.aload_n 0, 1) := by decide +kernel
theorem dX9_next_42 : decode cX9_next 42 = .ok (.getfield 87, 3) := by decide +kernel
theorem dX9_next_45 : decode cX9_next 45 = .ok (.putfield 90, 3) := by decide +kernel
theorem dX9_next_48 : decode cX9_next 48 = .ok (.aload_n 0, 1) := by decide +kernel
theorem dX9_next_49 : decode cX9_next 49 = .ok (.iconst (-1), 1) := by decide +kernel
theorem dX9_next_50 : decode cX9_next 50 = .ok (.putfield 93, 3) := by decide +kernel
theorem dX9_next_53 : decode cX9_next 53 = .ok (.aload_n 0, 1) := by decide +kernel
theorem dX9_next_54 : decode cX9_next 54 = .ok (.getfield 42, 3) := by decide +kernel
theorem dX9_next_57 : decode cX9_next 57 = .ok (.invokevirtual 324, 3) := by decide +kernel
theorem dX9_next_60 : decode cX9_next 60 = .ok (.aload_n 0, 1) := by decide +kernel
theorem dX9_next_61 : decode cX9_next 61 = .ok (.getfield 46, 3) := by decide +kernel
theorem dX9_next_64 : decode cX9_next 64 = .ok (.invokevirtual 327, 3) := by decide +kernel
theorem dX9_next_67 : decode cX9_next 67 = .ok (.aload_n 0, 1) := by decide +kernel
theorem dX9_next_68 : decode cX9_next 68 = .ok (.getfield 50, 3) := by decide +kernel
theorem dX9_next_71 : decode cX9_next 71 = .ok (.invokevirtual 328, 3) := by decide +kernel
theorem dX9_next_74 : decode cX9_next 74 = .ok (.aload_n 0, 1) := by decide +kernel
theorem dX9_next_75 : decode cX9_next 75 = .ok (.getfield 58, 3) := by decide +kernel
theorem dX9_next_78 : decode cX9_next 78 = .ok (.invokevirtual 329, 3) := by decide +kernel
theorem dX9_next_81 : decode cX9_next 81 = .ok (.aload_n 0, 1) := by decide +kernel
theorem dX9_next_82 : decode cX9_next 82 = .ok (.getfield 76, 3) := by decide +kernel
theorem dX9_next_85 : decode cX9_next 85 = .ok (.invokevirtual 330, 3) := by decide +kernel
theorem dX9_next_88 : decode cX9_next 88 = .ok (.aload_n 0, 1) := by decide +kernel
theorem dX9_next_89 : decode cX9_next 89 = .ok (.iconst 0, 1) := by decide +kernel
theorem dX9_next_90 : decode cX9_next 90 = .ok (.putfield 99, 3) := by decide +kernel
theorem dX9_next_93 : decode cX9_next 93 = .ok (.aload_n 0, 1) := by decide +kernel
theorem dX9_next_94 : decode cX9_next 94 = .ok (.getfield 80, 3) := by decide +kernel
theorem dX9_next_97 : decode cX9_next 97 = .ok (.ireturn, 1) := by decide +kernel
theorem dX9_ofLand_0 : decode cX9_ofLand 0 = .ok (.aload_n 0, 1) := by decide +kernel
theorem dX9_ofLand_1 : decode cX9_ofLand 1 = .ok (.iload_n 1, 1) := by decide +kernel
theorem dX9_ofLand_2 : decode cX9_ofLand 2 = .ok (.invokevirtual 152, 3) := by decide +kernel
theorem dX9_ofLand_5 : decode cX9_ofLand 5 = .ok (.iload_n 2, 1) := by decide +kernel
theorem dX9_ofLand_6 : decode cX9_ofLand 6 = .ok (.iconst 0, 1) := by decide +kernel
theorem dX9_ofLand_7 : decode cX9_ofLand 7 = .ok (.bipush 10, 2) := by decide +kernel
theorem dX9_ofLand_9 : decode cX9_ofLand 9 = .ok (.invokestatic 103, 3) := by decide +kernel
theorem dX9_ofLand_12 : decode cX9_ofLand 12 = .ok (.ifCond .ne 14, 3) := by decide +kernel
theorem dX9_ofLand_15 : decode cX9_ofLand 15 = .ok (.new 107, 3) := by decide +kernel
theorem dX9_ofLand_18 : decode cX9_ofLand 18 = .ok (.dup, 1) := by decide +kernel
theorem dX9_ofLand_19 : decode cX9_ofLand 19 = .ok (.ldc_w 331, 3) := by decide +kernel
theorem dX9_ofLand_22 : decode cX9_ofLand 22 = .ok (.invokespecial 111, 3) := by decide +kernel
theorem dX9_ofLand_25 : decode cX9_ofLand 25 = .ok (.athrow, 1) := by decide +kernel
theorem dX9_ofLand_26 : decode cX9_ofLand 26 = .ok (.aload_n 0, 1) := by decide +kernel
theorem dX9_ofLand_27 : decode cX9_ofLand 27 = .ok (.invokevirtual 255, 3) := by decide +kernel
theorem dX9_ofLand_30 : decode cX9_ofLand 30 = .ok (.aload_n 0, 1) := by decide +kernel
theorem dX9_ofLand_31 : decode cX9_ofLand 31 = .ok (.iload_n 1, 1) := by decide +kernel
theorem dX9_ofLand_32 : decode cX9_ofLand 32 = .ok (.iload_n 2, 1) := by decide +kernel
theorem dX9_ofLand_33 : decode cX9_ofLand 33 = .ok (.invokevirtual 333, 3) := by decide +kernel
theorem dX9_ofLand_36 : decode cX9_ofLand 36 = .ok (.ireturn, 1) := by decide +kernel
theorem dX9_ofSong_0 : decode cX9_ofSong 0 = .ok (.aload_n 0, 1) := by decide +kernel
theorem dX9_ofSong_1 : decode cX9_ofSong 1 = .ok (.iload_n 1, 1) := by decide +kernel
theorem dX9_ofSong_2 : decode cX9_ofSong 2 = .ok (.invokevirtual 152, 3) := by decide +kernel
theorem dX9_ofSong_5 : decode cX9_ofSong 5 = .ok (.aload_n 0, 1) := by decide +kernel
theorem dX9_ofSong_6 : decode cX9_ofSong 6 = .ok (.iload_n 1, 1) := by decide +kernel
theorem dX9_ofSong_7 : decode cX9_ofSong 7 = .ok (.invokevirtual 222, 3) := by decide +kernel
theorem dX9_ofSong_10 : decode cX9_ofSong 10 = .ok (.iload_n 2, 1) := by decide +kernel
theorem dX9_ofSong_11 : decode cX9_ofSong 11 = .ok (.iconst 0, 1) := by decide +kernel
theorem dX9_ofSong_12 : decode cX9_ofSong 12 = .ok (.bipush 9, 2) := by decide +kernel
theorem dX9_ofSong_14 : decode cX9_ofSong 14 = .ok (.invokestatic 103, 3) := by decide +kernel
theorem dX9_ofSong_17 : decode cX9_ofSong 17 = .ok (.ifCond .ne 14, 3) := by decide +kernel
theorem dX9_ofSong_20 : decode cX9_ofSong 20 = .ok (.new 107, 3) := by decide +kernel
theorem dX9_ofSong_23 : decode cX9_ofSong 23 = .ok (.dup, 1) := by decide +kernel
theorem dX9_ofSong_24 : decode cX9_ofSong 24 = .ok (.ldc_w 336, 3) := by decide +kernel
theorem dX9_ofSong_27 : decode cX9_ofSong 27 = .ok (.invokespecial 111, 3) := by decide +kernel
theorem dX9_ofSong_30 : decode cX9_ofSong 30 = .ok (.athrow, 1) := by decide +kernel
theorem dX9_ofSong_31 : decode cX9_ofSong 31 = .ok (.aload_n 0, 1) := by decide +kernel
theorem dX9_ofSong_32 : decode cX9_ofSong 32 = .ok (.invokevirtual 255, 3) := by decide +kernel
theorem dX9_ofSong_35 : decode cX9_ofSong 35 = .ok (.aload_n 0, 1) := by decide +kernel
theorem dX9_ofSong_36 : decode cX9_ofSong 36 = .ok (.iload_n 1, 1) := by decide +kernel
theorem dX9_ofSong_37 : decode cX9_ofSong 37 = .ok (.iload_n 2, 1) := by decide +kernel
theorem dX9_ofSong_38 : decode cX9_ofSong 38 = .ok (.invokevirtual 338, 3) := by decide +kernel
theorem dX9_ofSong_41 : decode cX9_ofSong 41 = .ok (.ireturn, 1) := by decide +kernel
theorem dX9_gives_0 : decode cX9_gives 0 = .ok (.aload_n 0, 1) := by decide +kernel
theorem dX9_gives_1 : decode cX9_gives 1 = .ok (.iload_n 1, 1) := by decide +kernel
theorem dX9_gives_2 : decode cX9_gives 2 = .ok (.invokevirtual 152, 3) := by decide +kernel
theorem dX9_gives_5 : decode cX9_gives 5 = .ok (.aload_n 0, 1) := by decide +kernel
theorem dX9_gives_6 : decode cX9_gives 6 = .ok (.iload_n 2, 1) := by decide +kernel
theorem dX9_gives_7 : decode cX9_gives 7 = .ok (.invokevirtual 222, 3) := by decide +kernel
theorem dX9_gives_10 : decode cX9_gives 10 = .ok (.aload_n 0, 1) := by decide +kernel
theorem dX9_gives_11 : decode cX9_gives 11 = .ok (.invokevirtual 255, 3) := by decide +kernel
theorem dX9_gives_14 : decode cX9_gives 14 = .ok (.iload_n 3, 1) := by decide +kernel
theorem dX9_gives_15 : decode cX9_gives 15 = .ok (.ifCond .eq 17, 3) := by decide +kernel
theorem dX9_gives_18 : decode cX9_gives 18 = .ok (.aload_n 0, 1) := by decide +kernel
theorem dX9_gives_19 : decode cX9_gives 19 = .ok (.getfield 54, 3) := by decide +kernel
theorem dX9_gives_22 : decode cX9_gives 22 = .ok (.getfield 277, 3) := by decide +kernel
theorem dX9_gives_25 : decode cX9_gives 25 = .ok (.iload_n 1, 1) := by decide +kernel
theorem dX9_gives_26 : decode cX9_gives 26 = .ok (.aaload, 1) := by decide +kernel
theorem dX9_gives_27 : decode cX9_gives 27 = .ok (.iload_n 2, 1) := by decide +kernel
theorem dX9_gives_28 : decode cX9_gives 28 = .ok (.iaload, 1) := by decide +kernel
theorem dX9_gives_29 : decode cX9_gives 29 = .ok (.goto 14, 3) := by decide +kernel
theorem dX9_gives_32 : decode cX9_gives 32 = .ok (.aload_n 0, 1) := by decide +kernel
theorem dX9_gives_33 : decode cX9_gives 33 = .ok (.getfield 58, 3) := by decide +kernel
theorem dX9_gives_36 : decode cX9_gives 36 = .ok (.getfield 341, 3) := by decide +kernel
theorem dX9_gives_39 : decode cX9_gives 39 = .ok (.iload_n 1, 1) := by decide +kernel
theorem dX9_gives_40 : decode cX9_gives 40 = .ok (.aaload, 1) := by decide +kernel
theorem dX9_gives_41 : decode cX9_gives 41 = .ok (.iload_n 2, 1) := by decide +kernel
theorem dX9_gives_42 : decode cX9_gives 42 = .ok (.iaload, 1) := by decide +kernel
theorem dX9_gives_43 : decode cX9_gives 43 = .ok (.ireturn, 1) := by decide +kernel
theorem dX9_at_0 : decode cX9_at 0 = .ok (.iload_n 1, 1) := by decide +kernel
theorem dX9_at_1 : decode cX9_at 1 = .ok (.iconst 0, 1) := by decide +kernel
theorem dX9_at_2 : decode cX9_at 2 = .ok (.aload_n 0, 1) := by decide +kernel
theorem dX9_at_3 : decode cX9_at 3 = .ok (.getfield 46, 3) := by decide +kernel
theorem dX9_at_6 : decode cX9_at 6 = .ok (.getfield 342, 3) := by decide +kernel
theorem dX9_at_9 : decode cX9_at 9 = .ok (.iconst 1, 1) := by decide +kernel
theorem dX9_at_10 : decode cX9_at 10 = .ok (.isub, 1) := by decide +kernel
theorem dX9_at_11 : decode cX9_at 11 = .ok (.invokestatic 103, 3) := by decide +kernel
theorem dX9_at_14 : decode cX9_at 14 = .ok (.ifCond .ne 13, 3) := by decide +kernel
theorem dX9_at_17 : decode cX9_at 17 = .ok (.new 201, 3) := by decide +kernel
theorem dX9_at_20 : decode cX9_at 20 = .ok (.dup, 1) := by decide +kernel
theorem dX9_at_21 : decode cX9_at 21 = .ok (.ldc 179, 2) := by decide +kernel
theorem dX9_at_23 : decode cX9_at 23 = .ok (.invokespecial 205, 3) := by decide +kernel
theorem dX9_at_26 : decode cX9_at 26 = .ok (.athrow, 1) := by decide +kernel
theorem dX9_at_27 : decode cX9_at 27 = .ok (.aload_n 0, 1) := by decide +kernel
theorem dX9_at_28 : decode cX9_at 28 = .ok (.getfield 46, 3) := by decide +kernel
theorem dX9_at_31 : decode cX9_at 31 = .ok (.getfield 343, 3) := by decide +kernel
theorem dX9_at_34 : decode cX9_at 34 = .ok (.iload_n 1, 1) := by decide +kernel
theorem dX9_at_35 : decode cX9_at 35 = .ok (.iaload, 1) := by decide +kernel
theorem dX9_at_36 : decode cX9_at 36 = .ok (.ireturn, 1) := by decide +kernel
theorem dX9_ranked_0 : decode cX9_ranked 0 = .ok (.iload_n 1, 1) := by decide +kernel
theorem dX9_ranked_1 : decode cX9_ranked 1 = .ok (.iconst 0, 1) := by decide +kernel
theorem dX9_ranked_2 : decode cX9_ranked 2 = .ok (.aload_n 0, 1) := by decide +kernel
theorem dX9_ranked_3 : decode cX9_ranked 3 = .ok (.getfield 42, 3) := by decide +kernel
theorem dX9_ranked_6 : decode cX9_ranked 6 = .ok (.invokevirtual 241, 3) := by decide +kernel
theorem dX9_ranked_9 : decode cX9_ranked 9 = .ok (.iconst 1, 1) := by decide +kernel
theorem dX9_ranked_10 : decode cX9_ranked 10 = .ok (.isub, 1) := by decide +kernel
theorem dX9_ranked_11 : decode cX9_ranked 11 = .ok (.invokestatic 103, 3) := by decide +kernel
theorem dX9_ranked_14 : decode cX9_ranked 14 = .ok (.ifCond .ne 14, 3) := by decide +kernel
theorem dX9_ranked_17 : decode cX9_ranked 17 = .ok (.new 201, 3) := by decide +kernel
theorem dX9_ranked_20 : decode cX9_ranked 20 = .ok (.dup, 1) := by decide +kernel
theorem dX9_ranked_21 : decode cX9_ranked 21 = .ok (.ldc_w 346, 3) := by decide +kernel
theorem dX9_ranked_24 : decode cX9_ranked 24 = .ok (.invokespecial 205, 3) := by decide +kernel
theorem dX9_ranked_27 : decode cX9_ranked 27 = .ok (.athrow, 1) := by decide +kernel
theorem dX9_ranked_28 : decode cX9_ranked 28 = .ok (.aload_n 0, 1) := by decide +kernel
theorem dX9_ranked_29 : decode cX9_ranked 29 = .ok (.invokevirtual 255, 3) := by decide +kernel
theorem dX9_ranked_32 : decode cX9_ranked 32 = .ok (.aload_n 0, 1) := by decide +kernel
theorem dX9_ranked_33 : decode cX9_ranked 33 = .ok (.getfield 67, 3) := by decide +kernel
theorem dX9_ranked_36 : decode cX9_ranked 36 = .ok (.iload_n 1, 1) := by decide +kernel
theorem dX9_ranked_37 : decode cX9_ranked 37 = .ok (.invokevirtual 310, 3) := by decide +kernel
theorem dX9_ranked_40 : decode cX9_ranked 40 = .ok (.ireturn, 1) := by decide +kernel
theorem dX9_many_0 : decode cX9_many 0 = .ok (.iload_n 1, 1) := by decide +kernel
theorem dX9_many_1 : decode cX9_many 1 = .ok (.iconst 0, 1) := by decide +kernel
theorem dX9_many_2 : decode cX9_many 2 = .ok (.bipush 11, 2) := by decide +kernel
theorem dX9_many_4 : decode cX9_many 4 = .ok (.invokestatic 103, 3) := by decide +kernel
theorem dX9_many_7 : decode cX9_many 7 = .ok (.ifCond .ne 14, 3) := by decide +kernel
theorem dX9_many_10 : decode cX9_many 10 = .ok (.new 107, 3) := by decide +kernel
theorem dX9_many_13 : decode cX9_many 13 = .ok (.dup, 1) := by decide +kernel
theorem dX9_many_14 : decode cX9_many 14 = .ok (.ldc_w 348, 3) := by decide +kernel
theorem dX9_many_17 : decode cX9_many 17 = .ok (.invokespecial 111, 3) := by decide +kernel
theorem dX9_many_20 : decode cX9_many 20 = .ok (.athrow, 1) := by decide +kernel
theorem dX9_many_21 : decode cX9_many 21 = .ok (.aload_n 0, 1) := by decide +kernel
theorem dX9_many_22 : decode cX9_many 22 = .ok (.invokevirtual 255, 3) := by decide +kernel
theorem dX9_many_25 : decode cX9_many 25 = .ok (.aload_n 0, 1) := by decide +kernel
theorem dX9_many_26 : decode cX9_many 26 = .ok (.iload_n 1, 1) := by decide +kernel
theorem dX9_many_27 : decode cX9_many 27 = .ok (.invokevirtual 350, 3) := by decide +kernel
theorem dX9_many_30 : decode cX9_many 30 = .ok (.ireturn, 1) := by decide +kernel
theorem dX9_meanTotal_0 : decode cX9_meanTotal 0 = .ok (.aload_n 0, 1) := by decide +kernel
theorem dX9_meanTotal_1 : decode cX9_meanTotal 1 = .ok (.invokevirtual 255, 3) := by decide +kernel
theorem dX9_meanTotal_4 : decode cX9_meanTotal 4 = .ok (.aload_n 0, 1) := by decide +kernel
theorem dX9_meanTotal_5 : decode cX9_meanTotal 5 = .ok (.getfield 42, 3) := by decide +kernel
theorem dX9_meanTotal_8 : decode cX9_meanTotal 8 = .ok (.invokevirtual 241, 3) := by decide +kernel
theorem dX9_meanTotal_11 : decode cX9_meanTotal 11 = .ok (.istore_n 1, 1) := by decide +kernel
theorem dX9_meanTotal_12 : decode cX9_meanTotal 12 = .ok (.iload_n 1, 1) := by decide +kernel
theorem dX9_meanTotal_13 : decode cX9_meanTotal 13 = .ok (.ifCond .gt 5, 3) := by decide +kernel
theorem dX9_meanTotal_16 : decode cX9_meanTotal 16 = .ok (.dconst 0, 1) := by decide +kernel
theorem dX9_meanTotal_17 : decode cX9_meanTotal 17 = .ok (.dreturn, 1) := by decide +kernel
theorem dX9_meanTotal_18 : decode cX9_meanTotal 18 = .ok (.aload_n 0, 1) := by decide +kernel
theorem dX9_meanTotal_19 : decode cX9_meanTotal 19 = .ok (.getfield 67, 3) := by decide +kernel
theorem dX9_meanTotal_22 : decode cX9_meanTotal 22 = .ok (.invokevirtual 353, 3) := by decide +kernel
theorem dX9_meanTotal_25 : decode cX9_meanTotal 25 = .ok (.i2d, 1) := by decide +kernel
theorem dX9_meanTotal_26 : decode cX9_meanTotal 26 = .ok (.iload_n 1, 1) := by decide +kernel
theorem dX9_meanTotal_27 : decode cX9_meanTotal 27 = .ok (.i2d, 1) := by decide +kernel
theorem dX9_meanTotal_28 : decode cX9_meanTotal 28 = .ok (.ddiv, 1) := by decide +kernel
theorem dX9_meanTotal_29 : decode cX9_meanTotal 29 = .ok (.dreturn, 1) := by decide +kernel
theorem dX9_isOpen_0 : decode cX9_isOpen 0 = .ok (.aload_n 0, 1) := by decide +kernel
theorem dX9_isOpen_1 : decode cX9_isOpen 1 = .ok (.invokevirtual 356, 3) := by decide +kernel
theorem dX9_isOpen_4 : decode cX9_isOpen 4 = .ok (.ireturn, 1) := by decide +kernel
theorem dX9_nextRead_0 : decode cX9_nextRead 0 = .ok (.aload_n 0, 1) := by decide +kernel
theorem dX9_nextRead_1 : decode cX9_nextRead 1 = .ok (.invokevirtual 255, 3) := by decide +kernel
theorem dX9_nextRead_4 : decode cX9_nextRead 4 = .ok (.aload_n 0, 1) := by decide +kernel
theorem dX9_nextRead_5 : decode cX9_nextRead 5 = .ok (.invokevirtual 359, 3) := by decide +kernel
theorem dX9_nextRead_8 : decode cX9_nextRead 8 = .ok (.ireturn, 1) := by decide +kernel
theorem dX9_without_0 : decode cX9_without 0 = .ok (.aload_n 0, 1) := by decide +kernel
theorem dX9_without_1 : decode cX9_without 1 = .ok (.iload_n 1, 1) := by decide +kernel
theorem dX9_without_2 : decode cX9_without 2 = .ok (.invokevirtual 152, 3) := by decide +kernel
theorem dX9_without_5 : decode cX9_without 5 = .ok (.aload_n 0, 1) := by decide +kernel
theorem dX9_without_6 : decode cX9_without 6 = .ok (.invokevirtual 255, 3) := by decide +kernel
theorem dX9_without_9 : decode cX9_without 9 = .ok (.aload_n 0, 1) := by decide +kernel
theorem dX9_without_10 : decode cX9_without 10 = .ok (.getfield 67, 3) := by decide +kernel
theorem dX9_without_13 : decode cX9_without 13 = .ok (.iload_n 1, 1) := by decide +kernel
theorem dX9_without_14 : decode cX9_without 14 = .ok (.invokevirtual 362, 3) := by decide +kernel
theorem dX9_without_17 : decode cX9_without 17 = .ok (.ireturn, 1) := by decide +kernel
theorem dX9_bestMove_0 : decode cX9_bestMove 0 = .ok (.aload_n 0, 1) := by decide +kernel
theorem dX9_bestMove_1 : decode cX9_bestMove 1 = .ok (.invokevirtual 181, 3) := by decide +kernel
theorem dX9_bestMove_4 : decode cX9_bestMove 4 = .ok (.ifCond .eq 13, 3) := by decide +kernel
theorem dX9_bestMove_7 : decode cX9_bestMove 7 = .ok (.aload_n 0, 1) := by decide +kernel
theorem dX9_bestMove_8 : decode cX9_bestMove 8 = .ok (.getfield 46, 3) := by decide +kernel
theorem dX9_bestMove_11 : decode cX9_bestMove 11 = .ok (.invokevirtual 368, 3) := by decide +kernel
theorem dX9_bestMove_14 : decode cX9_bestMove 14 = .ok (.goto 4, 3) := by decide +kernel
theorem dX9_bestMove_17 : decode cX9_bestMove 17 = .ok (.iconst (-1), 1) := by decide +kernel
theorem dX9_bestMove_18 : decode cX9_bestMove 18 = .ok (.ireturn, 1) := by decide +kernel
theorem dX9_digest_0 : decode cX9_digest 0 = .ok (.aload_n 0, 1) := by decide +kernel
theorem dX9_digest_1 : decode cX9_digest 1 = .ok (.invokevirtual 255, 3) := by decide +kernel
theorem dX9_digest_4 : decode cX9_digest 4 = .ok (.ldc2_w 371, 3) := by decide +kernel
theorem dX9_digest_7 : decode cX9_digest 7 = .ok (.lstore_n 1, 1) := by decide +kernel
theorem dX9_digest_8 : decode cX9_digest 8 = .ok (.iconst 0, 1) := by decide +kernel
theorem dX9_digest_9 : decode cX9_digest 9 = .ok (.istore_n 3, 1) := by decide +kernel
theorem dX9_digest_10 : decode cX9_digest 10 = .ok (.iload_n 3, 1) := by decide +kernel
theorem dX9_digest_11 : decode cX9_digest 11 = .ok (.bipush 11, 2) := by decide +kernel
theorem dX9_digest_13 : decode cX9_digest 13 = .ok (.if_icmp .gt 22, 3) := by decide +kernel
theorem dX9_digest_16 : decode cX9_digest 16 = .ok (.lload_n 1, 1) := by decide +kernel
theorem dX9_digest_17 : decode cX9_digest 17 = .ok (.ldc2_w 373, 3) := by decide +kernel
theorem dX9_digest_20 : decode cX9_digest 20 = .ok (.lmul, 1) := by decide +kernel
theorem dX9_digest_21 : decode cX9_digest 21 = .ok (.aload_n 0, 1) := by decide +kernel
theorem dX9_digest_22 : decode cX9_digest 22 = .ok (.iload_n 3, 1) := by decide +kernel
theorem dX9_digest_23 : decode cX9_digest 23 = .ok (.invokevirtual 350, 3) := by decide +kernel
theorem dX9_digest_26 : decode cX9_digest 26 = .ok (.i2l, 1) := by decide +kernel
theorem dX9_digest_27 : decode cX9_digest 27 = .ok (.ladd, 1) := by decide +kernel
theorem dX9_digest_28 : decode cX9_digest 28 = .ok (.lstore_n 1, 1) := by decide +kernel
theorem dX9_digest_29 : decode cX9_digest 29 = .ok (.iinc 3 1, 3) := by decide +kernel
theorem dX9_digest_32 : decode cX9_digest 32 = .ok (.goto (-22), 3) := by decide +kernel
theorem dX9_digest_35 : decode cX9_digest 35 = .ok (.iconst 0, 1) := by decide +kernel
theorem dX9_digest_36 : decode cX9_digest 36 = .ok (.istore_n 3, 1) := by decide +kernel
theorem dX9_digest_37 : decode cX9_digest 37 = .ok (.iload_n 3, 1) := by decide +kernel
theorem dX9_digest_38 : decode cX9_digest 38 = .ok (.aload_n 0, 1) := by decide +kernel
theorem dX9_digest_39 : decode cX9_digest 39 = .ok (.getfield 38, 3) := by decide +kernel
theorem dX9_digest_42 : decode cX9_digest 42 = .ok (.getfield 118, 3) := by decide +kernel
theorem dX9_digest_45 : decode cX9_digest 45 = .ok (.if_icmp .ge 16, 3) := by decide +kernel
theorem dX9_digest_48 : decode cX9_digest 48 = .ok (.aload_n 0, 1) := by decide +kernel
theorem dX9_digest_49 : decode cX9_digest 49 = .ok (.lload_n 1, 1) := by decide +kernel
theorem dX9_digest_50 : decode cX9_digest 50 = .ok (.iload_n 3, 1) := by decide +kernel
theorem dX9_digest_51 : decode cX9_digest 51 = .ok (.invokevirtual 375, 3) := by decide +kernel
theorem dX9_digest_54 : decode cX9_digest 54 = .ok (.lstore_n 1, 1) := by decide +kernel
theorem dX9_digest_55 : decode cX9_digest 55 = .ok (.iinc 3 1, 3) := by decide +kernel
theorem dX9_digest_58 : decode cX9_digest 58 = .ok (.goto (-21), 3) := by decide +kernel
theorem dX9_digest_61 : decode cX9_digest 61 = .ok (.iconst 0, 1) := by decide +kernel
theorem dX9_digest_62 : decode cX9_digest 62 = .ok (.istore_n 3, 1) := by decide +kernel
theorem dX9_digest_63 : decode cX9_digest 63 = .ok (.iload_n 3, 1) := by decide +kernel
theorem dX9_digest_64 : decode cX9_digest 64 = .ok (.bipush 8, 2) := by decide +kernel
theorem dX9_digest_66 : decode cX9_digest 66 = .ok (.if_icmp .ge 52, 3) := by decide +kernel
theorem dX9_digest_69 : decode cX9_digest 69 = .ok (.iconst 0, 1) := by decide +kernel
theorem dX9_digest_70 : decode cX9_digest 70 = .ok (.istore 4, 2) := by decide +kernel
theorem dX9_digest_72 : decode cX9_digest 72 = .ok (.aload_n 0, 1) := by decide +kernel
theorem dX9_digest_73 : decode cX9_digest 73 = .ok (.getfield 42, 3) := by decide +kernel
theorem dX9_digest_76 : decode cX9_digest 76 = .ok (.getfield 157, 3) := by decide +kernel
theorem dX9_digest_79 : decode cX9_digest 79 = .ok (.iload_n 3, 1) := by decide +kernel
theorem dX9_digest_80 : decode cX9_digest 80 = .ok (.baload, 1) := by decide +kernel
theorem dX9_digest_81 : decode cX9_digest 81 = .ok (.ifCond .eq 31, 3) := by decide +kernel
theorem dX9_digest_84 : decode cX9_digest 84 = .ok (.iload 4, 2) := by decide +kernel
theorem dX9_digest_86 : decode cX9_digest 86 = .ok (.bipush 9, 2) := by decide +kernel
theorem dX9_digest_88 : decode cX9_digest 88 = .ok (.if_icmp .gt 24, 3) := by decide +kernel
theorem dX9_digest_91 : decode cX9_digest 91 = .ok (.lload_n 1, 1) := by decide +kernel
theorem dX9_digest_92 : decode cX9_digest 92 = .ok (.ldc2_w 373, 3) := by decide +kernel
theorem dX9_digest_95 : decode cX9_digest 95 = .ok (.lmul, 1) := by decide +kernel
theorem dX9_digest_96 : decode cX9_digest 96 = .ok (.aload_n 0, 1) := by decide +kernel
theorem dX9_digest_97 : decode cX9_digest 97 = .ok (.iload_n 3, 1) := by decide +kernel
theorem dX9_digest_98 : decode cX9_digest 98 = .ok (.iload 4, 2) := by decide +kernel
theorem dX9_digest_100 : decode cX9_digest 100 = .ok (.invokevirtual 338, 3) := by decide +kernel
theorem dX9_digest_103 : decode cX9_digest 103 = .ok (.i2l, 1) := by decide +kernel
theorem dX9_digest_104 : decode cX9_digest 104 = .ok (.ladd, 1) := by decide +kernel
theorem dX9_digest_105 : decode cX9_digest 105 = .ok (.lstore_n 1, 1) := by decide +kernel
theorem dX9_digest_106 : decode cX9_digest 106 = .ok (.iinc 4 1, 3) := by decide +kernel
theorem dX9_digest_109 : decode cX9_digest 109 = .ok (.goto (-37), 3) := by decide +kernel
theorem dX9_digest_112 : decode cX9_digest 112 = .ok (.iinc 3 1, 3) := by decide +kernel
theorem dX9_digest_115 : decode cX9_digest 115 = .ok (.goto (-52), 3) := by decide +kernel
theorem dX9_digest_118 : decode cX9_digest 118 = .ok (.iconst 0, 1) := by decide +kernel
theorem dX9_digest_119 : decode cX9_digest 119 = .ok (.istore_n 3, 1) := by decide +kernel
theorem dX9_digest_120 : decode cX9_digest 120 = .ok (.iload_n 3, 1) := by decide +kernel
theorem dX9_digest_121 : decode cX9_digest 121 = .ok (.aload_n 0, 1) := by decide +kernel
theorem dX9_digest_122 : decode cX9_digest 122 = .ok (.getfield 46, 3) := by decide +kernel
theorem dX9_digest_125 : decode cX9_digest 125 = .ok (.getfield 342, 3) := by decide +kernel
theorem dX9_digest_128 : decode cX9_digest 128 = .ok (.if_icmp .ge 26, 3) := by decide +kernel
theorem dX9_digest_131 : decode cX9_digest 131 = .ok (.lload_n 1, 1) := by decide +kernel
theorem dX9_digest_132 : decode cX9_digest 132 = .ok (.ldc2_w 373, 3) := by decide +kernel
theorem dX9_digest_135 : decode cX9_digest 135 = .ok (.lmul, 1) := by decide +kernel
theorem dX9_digest_136 : decode cX9_digest 136 = .ok (.aload_n 0, 1) := by decide +kernel
theorem dX9_digest_137 : decode cX9_digest 137 = .ok (.getfield 46, 3) := by decide +kernel
theorem dX9_digest_140 : decode cX9_digest 140 = .ok (.getfield 343, 3) := by decide +kernel
theorem dX9_digest_143 : decode cX9_digest 143 = .ok (.iload_n 3, 1) := by decide +kernel
theorem dX9_digest_144 : decode cX9_digest 144 = .ok (.iaload, 1) := by decide +kernel
theorem dX9_digest_145 : decode cX9_digest 145 = .ok (.i2l, 1) := by decide +kernel
theorem dX9_digest_146 : decode cX9_digest 146 = .ok (.ladd, 1) := by decide +kernel
theorem dX9_digest_147 : decode cX9_digest 147 = .ok (.lstore_n 1, 1) := by decide +kernel
theorem dX9_digest_148 : decode cX9_digest 148 = .ok (.iinc 3 1, 3) := by decide +kernel
theorem dX9_digest_151 : decode cX9_digest 151 = .ok (.goto (-31), 3) := by decide +kernel
theorem dX9_digest_154 : decode cX9_digest 154 = .ok (.iconst 0, 1) := by decide +kernel
theorem dX9_digest_155 : decode cX9_digest 155 = .ok (.istore_n 3, 1) := by decide +kernel
theorem dX9_digest_156 : decode cX9_digest 156 = .ok (.iload_n 3, 1) := by decide +kernel
theorem dX9_digest_157 : decode cX9_digest 157 = .ok (.aload_n 0, 1) := by decide +kernel
theorem dX9_digest_158 : decode cX9_digest 158 = .ok (.getfield 67, 3) := by decide +kernel
theorem dX9_digest_161 : decode cX9_digest 161 = .ok (.getfield 379, 3) := by decide +kernel
theorem dX9_digest_164 : decode cX9_digest 164 = .ok (.if_icmp .ge 26, 3) := by decide +kernel
theorem dX9_digest_167 : decode cX9_digest 167 = .ok (.lload_n 1, 1) := by decide +kernel
theorem dX9_digest_168 : decode cX9_digest 168 = .ok (.ldc2_w 373, 3) := by decide +kernel
theorem dX9_digest_171 : decode cX9_digest 171 = .ok (.lmul, 1) := by decide +kernel
theorem dX9_digest_172 : decode cX9_digest 172 = .ok (.aload_n 0, 1) := by decide +kernel
theorem dX9_digest_173 : decode cX9_digest 173 = .ok (.getfield 67, 3) := by decide +kernel
theorem dX9_digest_176 : decode cX9_digest 176 = .ok (.getfield 380, 3) := by decide +kernel
theorem dX9_digest_179 : decode cX9_digest 179 = .ok (.iload_n 3, 1) := by decide +kernel
theorem dX9_digest_180 : decode cX9_digest 180 = .ok (.iaload, 1) := by decide +kernel
theorem dX9_digest_181 : decode cX9_digest 181 = .ok (.i2l, 1) := by decide +kernel
theorem dX9_digest_182 : decode cX9_digest 182 = .ok (.ladd, 1) := by decide +kernel
theorem dX9_digest_183 : decode cX9_digest 183 = .ok (.lstore_n 1, 1) := by decide +kernel
theorem dX9_digest_184 : decode cX9_digest 184 = .ok (.iinc 3 1, 3) := by decide +kernel
theorem dX9_digest_187 : decode cX9_digest 187 = .ok (.goto (-31), 3) := by decide +kernel
theorem dX9_digest_190 : decode cX9_digest 190 = .ok (.lload_n 1, 1) := by decide +kernel
theorem dX9_digest_191 : decode cX9_digest 191 = .ok (.ldc2_w 373, 3) := by decide +kernel
theorem dX9_digest_194 : decode cX9_digest 194 = .ok (.lmul, 1) := by decide +kernel
theorem dX9_digest_195 : decode cX9_digest 195 = .ok (.aload_n 0, 1) := by decide +kernel
theorem dX9_digest_196 : decode cX9_digest 196 = .ok (.invokevirtual 356, 3) := by decide +kernel
theorem dX9_digest_199 : decode cX9_digest 199 = .ok (.ifCond .eq 7, 3) := by decide +kernel
theorem dX9_digest_202 : decode cX9_digest 202 = .ok (.iconst 1, 1) := by decide +kernel
theorem dX9_digest_203 : decode cX9_digest 203 = .ok (.goto 4, 3) := by decide +kernel
theorem dX9_digest_206 : decode cX9_digest 206 = .ok (.iconst 0, 1) := by decide +kernel
theorem dX9_digest_207 : decode cX9_digest 207 = .ok (.i2l, 1) := by decide +kernel
theorem dX9_digest_208 : decode cX9_digest 208 = .ok (.ladd, 1) := by decide +kernel
theorem dX9_digest_209 : decode cX9_digest 209 = .ok (.lstore_n 1, 1) := by decide +kernel
theorem dX9_digest_210 : decode cX9_digest 210 = .ok (.lload_n 1, 1) := by decide +kernel
theorem dX9_digest_211 : decode cX9_digest 211 = .ok (.ldc2_w 373, 3) := by decide +kernel
theorem dX9_digest_214 : decode cX9_digest 214 = .ok (.lmul, 1) := by decide +kernel
theorem dX9_digest_215 : decode cX9_digest 215 = .ok (.aload_n 0, 1) := by decide +kernel
theorem dX9_digest_216 : decode cX9_digest 216 = .ok (.invokevirtual 359, 3) := by decide +kernel
theorem dX9_digest_219 : decode cX9_digest 219 = .ok (.i2l, 1) := by decide +kernel
theorem dX9_digest_220 : decode cX9_digest 220 = .ok (.ladd, 1) := by decide +kernel
theorem dX9_digest_221 : decode cX9_digest 221 = .ok (.lstore_n 1, 1) := by decide +kernel
theorem dX9_digest_222 : decode cX9_digest 222 = .ok (.lload_n 1, 1) := by decide +kernel
theorem dX9_digest_223 : decode cX9_digest 223 = .ok (.ldc2_w 373, 3) := by decide +kernel
theorem dX9_digest_226 : decode cX9_digest 226 = .ok (.lmul, 1) := by decide +kernel
theorem dX9_digest_227 : decode cX9_digest 227 = .ok (.aload_n 0, 1) := by decide +kernel
theorem dX9_digest_228 : decode cX9_digest 228 = .ok (.invokevirtual 181, 3) := by decide +kernel
theorem dX9_digest_231 : decode cX9_digest 231 = .ok (.ifCond .eq 13, 3) := by decide +kernel
theorem dX9_digest_234 : decode cX9_digest 234 = .ok (.aload_n 0, 1) := by decide +kernel
theorem dX9_digest_235 : decode cX9_digest 235 = .ok (.getfield 46, 3) := by decide +kernel
theorem dX9_digest_238 : decode cX9_digest 238 = .ok (.invokevirtual 368, 3) := by decide +kernel
theorem dX9_digest_241 : decode cX9_digest 241 = .ok (.goto 4, 3) := by decide +kernel
theorem dX9_digest_244 : decode cX9_digest 244 = .ok (.iconst (-1), 1) := by decide +kernel
theorem dX9_digest_245 : decode cX9_digest 245 = .ok (.i2l, 1) := by decide +kernel
theorem dX9_digest_246 : decode cX9_digest 246 = .ok (.ladd, 1) := by decide +kernel
theorem dX9_digest_247 : decode cX9_digest 247 = .ok (.lreturn, 1) := by decide +kernel
theorem dX9_digestOfLand_0 : decode cX9_digestOfLand 0 = .ok (.lload_n 1, 1) := by decide +kernel
theorem dX9_digestOfLand_1 : decode cX9_digestOfLand 1 = .ok (.lstore 4, 2) := by decide +kernel
theorem dX9_digestOfLand_3 : decode cX9_digestOfLand 3 = .ok (.iconst 0, 1) := by decide +kernel
theorem dX9_digestOfLand_4 : decode cX9_digestOfLand 4 = .ok (.istore 6, 2) := by decide +kernel
theorem dX9_digestOfLand_6 : decode cX9_digestOfLand 6 = .ok (.iload 6, 2) := by decide +kernel
theorem dX9_digestOfLand_8 : decode cX9_digestOfLand 8 = .ok (.bipush 10, 2) := by decide +kernel
theorem dX9_digestOfLand_10 : decode cX9_digestOfLand 10 = .ok (.if_icmp .gt 26, 3) := by decide +kernel
theorem dX9_digestOfLand_13 : decode cX9_digestOfLand 13 = .ok (.lload 4, 2) := by decide +kernel
theorem dX9_digestOfLand_15 : decode cX9_digestOfLand 15 = .ok (.ldc2_w 373, 3) := by decide +kernel
theorem dX9_digestOfLand_18 : decode cX9_digestOfLand 18 = .ok (.lmul, 1) := by decide +kernel
theorem dX9_digestOfLand_19 : decode cX9_digestOfLand 19 = .ok (.aload_n 0, 1) := by decide +kernel
theorem dX9_digestOfLand_20 : decode cX9_digestOfLand 20 = .ok (.iload_n 3, 1) := by decide +kernel
theorem dX9_digestOfLand_21 : decode cX9_digestOfLand 21 = .ok (.iload 6, 2) := by decide +kernel
theorem dX9_digestOfLand_23 : decode cX9_digestOfLand 23 = .ok (.invokevirtual 333, 3) := by decide +kernel
theorem dX9_digestOfLand_26 : decode cX9_digestOfLand 26 = .ok (.i2l, 1) := by decide +kernel
theorem dX9_digestOfLand_27 : decode cX9_digestOfLand 27 = .ok (.ladd, 1) := by decide +kernel
theorem dX9_digestOfLand_28 : decode cX9_digestOfLand 28 = .ok (.lstore 4, 2) := by decide +kernel
theorem dX9_digestOfLand_30 : decode cX9_digestOfLand 30 = .ok (.iinc 6 1, 3) := by decide +kernel
theorem dX9_digestOfLand_33 : decode cX9_digestOfLand 33 = .ok (.goto (-27), 3) := by decide +kernel
theorem dX9_digestOfLand_36 : decode cX9_digestOfLand 36 = .ok (.lload 4, 2) := by decide +kernel
theorem dX9_digestOfLand_38 : decode cX9_digestOfLand 38 = .ok (.ldc2_w 373, 3) := by decide +kernel
theorem dX9_digestOfLand_41 : decode cX9_digestOfLand 41 = .ok (.lmul, 1) := by decide +kernel
theorem dX9_digestOfLand_42 : decode cX9_digestOfLand 42 = .ok (.aload_n 0, 1) := by decide +kernel
theorem dX9_digestOfLand_43 : decode cX9_digestOfLand 43 = .ok (.getfield 67, 3) := by decide +kernel
theorem dX9_digestOfLand_46 : decode cX9_digestOfLand 46 = .ok (.iload_n 3, 1) := by decide +kernel
theorem dX9_digestOfLand_47 : decode cX9_digestOfLand 47 = .ok (.invokevirtual 362, 3) := by decide +kernel
theorem dX9_digestOfLand_50 : decode cX9_digestOfLand 50 = .ok (.i2l, 1) := by decide +kernel
theorem dX9_digestOfLand_51 : decode cX9_digestOfLand 51 = .ok (.ladd, 1) := by decide +kernel
theorem dX9_digestOfLand_52 : decode cX9_digestOfLand 52 = .ok (.lstore 4, 2) := by decide +kernel
theorem dX9_digestOfLand_54 : decode cX9_digestOfLand 54 = .ok (.iconst 0, 1) := by decide +kernel
theorem dX9_digestOfLand_55 : decode cX9_digestOfLand 55 = .ok (.istore 6, 2) := by decide +kernel
theorem dX9_digestOfLand_57 : decode cX9_digestOfLand 57 = .ok (.iload 6, 2) := by decide +kernel
theorem dX9_digestOfLand_59 : decode cX9_digestOfLand 59 = .ok (.bipush 8, 2) := by decide +kernel
theorem dX9_digestOfLand_61 : decode cX9_digestOfLand 61 = .ok (.if_icmp .ge 86, 3) := by decide +kernel
theorem dX9_digestOfLand_64 : decode cX9_digestOfLand 64 = .ok (.aload_n 0, 1) := by decide +kernel
theorem dX9_digestOfLand_65 : decode cX9_digestOfLand 65 = .ok (.getfield 42, 3) := by decide +kernel
theorem dX9_digestOfLand_68 : decode cX9_digestOfLand 68 = .ok (.getfield 157, 3) := by decide +kernel
theorem dX9_digestOfLand_71 : decode cX9_digestOfLand 71 = .ok (.iload 6, 2) := by decide +kernel
theorem dX9_digestOfLand_73 : decode cX9_digestOfLand 73 = .ok (.baload, 1) := by decide +kernel
theorem dX9_digestOfLand_74 : decode cX9_digestOfLand 74 = .ok (.ifCond .eq 67, 3) := by decide +kernel
theorem dX9_digestOfLand_77 : decode cX9_digestOfLand 77 = .ok (.lload 4, 2) := by decide +kernel
theorem dX9_digestOfLand_79 : decode cX9_digestOfLand 79 = .ok (.ldc2_w 373, 3) := by decide +kernel
theorem dX9_digestOfLand_82 : decode cX9_digestOfLand 82 = .ok (.lmul, 1) := by decide +kernel
theorem dX9_digestOfLand_83 : decode cX9_digestOfLand 83 = .ok (.aload_n 0, 1) := by decide +kernel
theorem dX9_digestOfLand_84 : decode cX9_digestOfLand 84 = .ok (.getfield 54, 3) := by decide +kernel
theorem dX9_digestOfLand_87 : decode cX9_digestOfLand 87 = .ok (.getfield 277, 3) := by decide +kernel
theorem dX9_digestOfLand_90 : decode cX9_digestOfLand 90 = .ok (.iload_n 3, 1) := by decide +kernel
theorem dX9_digestOfLand_91 : decode cX9_digestOfLand 91 = .ok (.aaload, 1) := by decide +kernel
theorem dX9_digestOfLand_92 : decode cX9_digestOfLand 92 = .ok (.iload 6, 2) := by decide +kernel
theorem dX9_digestOfLand_94 : decode cX9_digestOfLand 94 = .ok (.iaload, 1) := by decide +kernel
theorem dX9_digestOfLand_95 : decode cX9_digestOfLand 95 = .ok (.i2l, 1) := by decide +kernel
theorem dX9_digestOfLand_96 : decode cX9_digestOfLand 96 = .ok (.ladd, 1) := by decide +kernel
theorem dX9_digestOfLand_97 : decode cX9_digestOfLand 97 = .ok (.lstore 4, 2) := by decide +kernel
theorem dX9_digestOfLand_99 : decode cX9_digestOfLand 99 = .ok (.lload 4, 2) := by decide +kernel
theorem dX9_digestOfLand_101 : decode cX9_digestOfLand 101 = .ok (.ldc2_w 373, 3) := by decide +kernel
theorem dX9_digestOfLand_104 : decode cX9_digestOfLand 104 = .ok (.lmul, 1) := by decide +kernel
theorem dX9_digestOfLand_105 : decode cX9_digestOfLand 105 = .ok (.aload_n 0, 1) := by decide +kernel
theorem dX9_digestOfLand_106 : decode cX9_digestOfLand 106 = .ok (.getfield 58, 3) := by decide +kernel
theorem dX9_digestOfLand_109 : decode cX9_digestOfLand 109 = .ok (.getfield 341, 3) := by decide +kernel
theorem dX9_digestOfLand_112 : decode cX9_digestOfLand 112 = .ok (.iload_n 3, 1) := by decide +kernel
theorem dX9_digestOfLand_113 : decode cX9_digestOfLand 113 = .ok (.aaload, 1) := by decide +kernel
theorem dX9_digestOfLand_114 : decode cX9_digestOfLand 114 = .ok (.iload 6, 2) := by decide +kernel
theorem dX9_digestOfLand_116 : decode cX9_digestOfLand 116 = .ok (.iaload, 1) := by decide +kernel
theorem dX9_digestOfLand_117 : decode cX9_digestOfLand 117 = .ok (.i2l, 1) := by decide +kernel
theorem dX9_digestOfLand_118 : decode cX9_digestOfLand 118 = .ok (.ladd, 1) := by decide +kernel
theorem dX9_digestOfLand_119 : decode cX9_digestOfLand 119 = .ok (.lstore 4, 2) := by decide +kernel
theorem dX9_digestOfLand_121 : decode cX9_digestOfLand 121 = .ok (.lload 4, 2) := by decide +kernel
theorem dX9_digestOfLand_123 : decode cX9_digestOfLand 123 = .ok (.ldc2_w 373, 3) := by decide +kernel
theorem dX9_digestOfLand_126 : decode cX9_digestOfLand 126 = .ok (.lmul, 1) := by decide +kernel
theorem dX9_digestOfLand_127 : decode cX9_digestOfLand 127 = .ok (.aload_n 0, 1) := by decide +kernel
theorem dX9_digestOfLand_128 : decode cX9_digestOfLand 128 = .ok (.getfield 58, 3) := by decide +kernel
theorem dX9_digestOfLand_131 : decode cX9_digestOfLand 131 = .ok (.iload_n 3, 1) := by decide +kernel
theorem dX9_digestOfLand_132 : decode cX9_digestOfLand 132 = .ok (.iload 6, 2) := by decide +kernel
theorem dX9_digestOfLand_134 : decode cX9_digestOfLand 134 = .ok (.invokevirtual 365, 3) := by decide +kernel
theorem dX9_digestOfLand_137 : decode cX9_digestOfLand 137 = .ok (.i2l, 1) := by decide +kernel
theorem dX9_digestOfLand_138 : decode cX9_digestOfLand 138 = .ok (.ladd, 1) := by decide +kernel
theorem dX9_digestOfLand_139 : decode cX9_digestOfLand 139 = .ok (.lstore 4, 2) := by decide +kernel
theorem dX9_digestOfLand_141 : decode cX9_digestOfLand 141 = .ok (.iinc 6 1, 3) := by decide +kernel
theorem dX9_digestOfLand_144 : decode cX9_digestOfLand 144 = .ok (.goto (-87), 3) := by decide +kernel
theorem dX9_digestOfLand_147 : decode cX9_digestOfLand 147 = .ok (.lload 4, 2) := by decide +kernel
theorem dX9_digestOfLand_149 : decode cX9_digestOfLand 149 = .ok (.lreturn, 1) := by decide +kernel
theorem dX9_numberOfLand_0 : decode cX9_numberOfLand 0 = .ok (.iload_n 2, 1) := by decide +kernel
theorem dX9_numberOfLand_1 : decode cX9_numberOfLand 1 = .ok (.tableswitch 170 0 9 #[55, 65, 75, 85, 94, 104, 122, 132, 142, 160], 55) := by decide +kernel
theorem dX9_numberOfLand_56 : decode cX9_numberOfLand 56 = .ok (.aload_n 0, 1) := by decide +kernel
theorem dX9_numberOfLand_57 : decode cX9_numberOfLand 57 = .ok (.getfield 38, 3) := by decide +kernel
theorem dX9_numberOfLand_60 : decode cX9_numberOfLand 60 = .ok (.getfield 381, 3) := by decide +kernel
theorem dX9_numberOfLand_63 : decode cX9_numberOfLand 63 = .ok (.iload_n 1, 1) := by decide +kernel
theorem dX9_numberOfLand_64 : decode cX9_numberOfLand 64 = .ok (.iaload, 1) := by decide +kernel
theorem dX9_numberOfLand_65 : decode cX9_numberOfLand 65 = .ok (.ireturn, 1) := by decide +kernel
theorem dX9_numberOfLand_66 : decode cX9_numberOfLand 66 = .ok (.aload_n 0, 1) := by decide +kernel
theorem dX9_numberOfLand_67 : decode cX9_numberOfLand 67 = .ok (.getfield 38, 3) := by decide +kernel
theorem dX9_numberOfLand_70 : decode cX9_numberOfLand 70 = .ok (.getfield 384, 3) := by decide +kernel
theorem dX9_numberOfLand_73 : decode cX9_numberOfLand 73 = .ok (.iload_n 1, 1) := by decide +kernel
theorem dX9_numberOfLand_74 : decode cX9_numberOfLand 74 = .ok (.iaload, 1) := by decide +kernel
theorem dX9_numberOfLand_75 : decode cX9_numberOfLand 75 = .ok (.ireturn, 1) := by decide +kernel
theorem dX9_numberOfLand_76 : decode cX9_numberOfLand 76 = .ok (.aload_n 0, 1) := by decide +kernel
theorem dX9_numberOfLand_77 : decode cX9_numberOfLand 77 = .ok (.getfield 38, 3) := by decide +kernel
theorem dX9_numberOfLand_80 : decode cX9_numberOfLand 80 = .ok (.getfield 169, 3) := by decide +kernel
theorem dX9_numberOfLand_83 : decode cX9_numberOfLand 83 = .ok (.iload_n 1, 1) := by decide +kernel
theorem dX9_numberOfLand_84 : decode cX9_numberOfLand 84 = .ok (.iaload, 1) := by decide +kernel
theorem dX9_numberOfLand_85 : decode cX9_numberOfLand 85 = .ok (.ireturn, 1) := by decide +kernel
theorem dX9_numberOfLand_86 : decode cX9_numberOfLand 86 = .ok (.aload_n 0, 1) := by decide +kernel
theorem dX9_numberOfLand_87 : decode cX9_numberOfLand 87 = .ok (.getfield 50, 3) := by decide +kernel
theorem dX9_numberOfLand_90 : decode cX9_numberOfLand 90 = .ok (.iload_n 1, 1) := by decide +kernel
theorem dX9_numberOfLand_91 : decode cX9_numberOfLand 91 = .ok (.invokevirtual 387, 3) := by decide +kernel
theorem dX9_numberOfLand_94 : decode cX9_numberOfLand 94 = .ok (.ireturn, 1) := by decide +kernel
theorem dX9_numberOfLand_95 : decode cX9_numberOfLand 95 = .ok (.aload_n 0, 1) := by decide +kernel
theorem dX9_numberOfLand_96 : decode cX9_numberOfLand 96 = .ok (.getfield 54, 3) := by decide +kernel
theorem dX9_numberOfLand_99 : decode cX9_numberOfLand 99 = .ok (.getfield 390, 3) := by decide +kernel
theorem dX9_numberOfLand_102 : decode cX9_numberOfLand 102 = .ok (.iload_n 1, 1) := by decide +kernel
theorem dX9_numberOfLand_103 : decode cX9_numberOfLand 103 = .ok (.iaload, 1) := by decide +kernel
theorem dX9_numberOfLand_104 : decode cX9_numberOfLand 104 = .ok (.ireturn, 1) := by decide +kernel
theorem dX9_numberOfLand_105 : decode cX9_numberOfLand 105 = .ok (.aload_n 0, 1) := by decide +kernel
theorem dX9_numberOfLand_106 : decode cX9_numberOfLand 106 = .ok (.getfield 54, 3) := by decide +kernel
theorem dX9_numberOfLand_109 : decode cX9_numberOfLand 109 = .ok (.getfield 393, 3) := by decide +kernel
theorem dX9_numberOfLand_112 : decode cX9_numberOfLand 112 = .ok (.iload_n 1, 1) := by decide +kernel
theorem dX9_numberOfLand_113 : decode cX9_numberOfLand 113 = .ok (.baload, 1) := by decide +kernel
theorem dX9_numberOfLand_114 : decode cX9_numberOfLand 114 = .ok (.ifCond .eq 7, 3) := by decide +kernel
theorem dX9_numberOfLand_117 : decode cX9_numberOfLand 117 = .ok (.iconst 1, 1) := by decide +kernel
theorem dX9_numberOfLand_118 : decode cX9_numberOfLand 118 = .ok (.goto 4, 3) := by decide +kernel
theorem dX9_numberOfLand_121 : decode cX9_numberOfLand 121 = .ok (.iconst 0, 1) := by decide +kernel
theorem dX9_numberOfLand_122 : decode cX9_numberOfLand 122 = .ok (.ireturn, 1) := by decide +kernel
theorem dX9_numberOfLand_123 : decode cX9_numberOfLand 123 = .ok (.aload_n 0, 1) := by decide +kernel
theorem dX9_numberOfLand_124 : decode cX9_numberOfLand 124 = .ok (.getfield 58, 3) := by decide +kernel
theorem dX9_numberOfLand_127 : decode cX9_numberOfLand 127 = .ok (.getfield 396, 3) := by decide +kernel
theorem dX9_numberOfLand_130 : decode cX9_numberOfLand 130 = .ok (.iload_n 1, 1) := by decide +kernel
theorem dX9_numberOfLand_131 : decode cX9_numberOfLand 131 = .ok (.iaload, 1) := by decide +kernel
theorem dX9_numberOfLand_132 : decode cX9_numberOfLand 132 = .ok (.ireturn, 1) := by decide +kernel
theorem dX9_numberOfLand_133 : decode cX9_numberOfLand 133 = .ok (.aload_n 0, 1) := by decide +kernel
theorem dX9_numberOfLand_134 : decode cX9_numberOfLand 134 = .ok (.getfield 58, 3) := by decide +kernel
theorem dX9_numberOfLand_137 : decode cX9_numberOfLand 137 = .ok (.getfield 399, 3) := by decide +kernel
theorem dX9_numberOfLand_140 : decode cX9_numberOfLand 140 = .ok (.iload_n 1, 1) := by decide +kernel
theorem dX9_numberOfLand_141 : decode cX9_numberOfLand 141 = .ok (.iaload, 1) := by decide +kernel
theorem dX9_numberOfLand_142 : decode cX9_numberOfLand 142 = .ok (.ireturn, 1) := by decide +kernel
theorem dX9_numberOfLand_143 : decode cX9_numberOfLand 143 = .ok (.aload_n 0, 1) := by decide +kernel
theorem dX9_numberOfLand_144 : decode cX9_numberOfLand 144 = .ok (.getfield 76, 3) := by decide +kernel
theorem dX9_numberOfLand_147 : decode cX9_numberOfLand 147 = .ok (.getfield 260, 3) := by decide +kernel
theorem dX9_numberOfLand_150 : decode cX9_numberOfLand 150 = .ok (.iload_n 1, 1) := by decide +kernel
theorem dX9_numberOfLand_151 : decode cX9_numberOfLand 151 = .ok (.baload, 1) := by decide +kernel
theorem dX9_numberOfLand_152 : decode cX9_numberOfLand 152 = .ok (.ifCond .eq 7, 3) := by decide +kernel
theorem dX9_numberOfLand_155 : decode cX9_numberOfLand 155 = .ok (.iconst 1, 1) := by decide +kernel
theorem dX9_numberOfLand_156 : decode cX9_numberOfLand 156 = .ok (.goto 4, 3) := by decide +kernel
theorem dX9_numberOfLand_159 : decode cX9_numberOfLand 159 = .ok (.iconst 0, 1) := by decide +kernel
theorem dX9_numberOfLand_160 : decode cX9_numberOfLand 160 = .ok (.ireturn, 1) := by decide +kernel
theorem dX9_numberOfLand_161 : decode cX9_numberOfLand 161 = .ok (.aload_n 0, 1) := by decide +kernel
theorem dX9_numberOfLand_162 : decode cX9_numberOfLand 162 = .ok (.getfield 38, 3) := by decide +kernel
theorem dX9_numberOfLand_165 : decode cX9_numberOfLand 165 = .ok (.getfield 313, 3) := by decide +kernel
theorem dX9_numberOfLand_168 : decode cX9_numberOfLand 168 = .ok (.iload_n 1, 1) := by decide +kernel
theorem dX9_numberOfLand_169 : decode cX9_numberOfLand 169 = .ok (.iaload, 1) := by decide +kernel
theorem dX9_numberOfLand_170 : decode cX9_numberOfLand 170 = .ok (.ireturn, 1) := by decide +kernel
theorem dX9_numberOfLand_171 : decode cX9_numberOfLand 171 = .ok (.aload_n 0, 1) := by decide +kernel
theorem dX9_numberOfLand_172 : decode cX9_numberOfLand 172 = .ok (.getfield 38, 3) := by decide +kernel
theorem dX9_numberOfLand_175 : decode cX9_numberOfLand 175 = .ok (.getfield 319, 3) := by decide +kernel
theorem dX9_numberOfLand_178 : decode cX9_numberOfLand 178 = .ok (.iload_n 1, 1) := by decide +kernel
theorem dX9_numberOfLand_179 : decode cX9_numberOfLand 179 = .ok (.iaload, 1) := by decide +kernel
theorem dX9_numberOfLand_180 : decode cX9_numberOfLand 180 = .ok (.ireturn, 1) := by decide +kernel
theorem dX9_numberOfSong_0 : decode cX9_numberOfSong 0 = .ok (.iload_n 2, 1) := by decide +kernel
theorem dX9_numberOfSong_1 : decode cX9_numberOfSong 1 = .ok (.tableswitch 157 0 8 #[51, 61, 71, 81, 90, 108, 118, 128, 148], 51) := by decide +kernel
theorem dX9_numberOfSong_52 : decode cX9_numberOfSong 52 = .ok (.aload_n 0, 1) := by decide +kernel
theorem dX9_numberOfSong_53 : decode cX9_numberOfSong 53 = .ok (.getfield 42, 3) := by decide +kernel
theorem dX9_numberOfSong_56 : decode cX9_numberOfSong 56 = .ok (.getfield 402, 3) := by decide +kernel
theorem dX9_numberOfSong_59 : decode cX9_numberOfSong 59 = .ok (.iload_n 1, 1) := by decide +kernel
theorem dX9_numberOfSong_60 : decode cX9_numberOfSong 60 = .ok (.iaload, 1) := by decide +kernel
theorem dX9_numberOfSong_61 : decode cX9_numberOfSong 61 = .ok (.ireturn, 1) := by decide +kernel
theorem dX9_numberOfSong_62 : decode cX9_numberOfSong 62 = .ok (.aload_n 0, 1) := by decide +kernel
theorem dX9_numberOfSong_63 : decode cX9_numberOfSong 63 = .ok (.getfield 42, 3) := by decide +kernel
theorem dX9_numberOfSong_66 : decode cX9_numberOfSong 66 = .ok (.getfield 405, 3) := by decide +kernel
theorem dX9_numberOfSong_69 : decode cX9_numberOfSong 69 = .ok (.iload_n 1, 1) := by decide +kernel
theorem dX9_numberOfSong_70 : decode cX9_numberOfSong 70 = .ok (.iaload, 1) := by decide +kernel
theorem dX9_numberOfSong_71 : decode cX9_numberOfSong 71 = .ok (.ireturn, 1) := by decide +kernel
theorem dX9_numberOfSong_72 : decode cX9_numberOfSong 72 = .ok (.aload_n 0, 1) := by decide +kernel
theorem dX9_numberOfSong_73 : decode cX9_numberOfSong 73 = .ok (.getfield 42, 3) := by decide +kernel
theorem dX9_numberOfSong_76 : decode cX9_numberOfSong 76 = .ok (.getfield 408, 3) := by decide +kernel
theorem dX9_numberOfSong_79 : decode cX9_numberOfSong 79 = .ok (.iload_n 1, 1) := by decide +kernel
theorem dX9_numberOfSong_80 : decode cX9_numberOfSong 80 = .ok (.iaload, 1) := by decide +kernel
theorem dX9_numberOfSong_81 : decode cX9_numberOfSong 81 = .ok (.ireturn, 1) := by decide +kernel
theorem dX9_numberOfSong_82 : decode cX9_numberOfSong 82 = .ok (.aload_n 0, 1) := by decide +kernel
theorem dX9_numberOfSong_83 : decode cX9_numberOfSong 83 = .ok (.getfield 46, 3) := by decide +kernel
theorem dX9_numberOfSong_86 : decode cX9_numberOfSong 86 = .ok (.iload_n 1, 1) := by decide +kernel
theorem dX9_numberOfSong_87 : decode cX9_numberOfSong 87 = .ok (.invokevirtual 411, 3) := by decide +kernel
theorem dX9_numberOfSong_90 : decode cX9_numberOfSong 90 = .ok (.ireturn, 1) := by decide +kernel
theorem dX9_numberOfSong_91 : decode cX9_numberOfSong 91 = .ok (.aload_n 0, 1) := by decide +kernel
theorem dX9_numberOfSong_92 : decode cX9_numberOfSong 92 = .ok (.getfield 42, 3) := by decide +kernel
theorem dX9_numberOfSong_95 : decode cX9_numberOfSong 95 = .ok (.getfield 238, 3) := by decide +kernel
theorem dX9_numberOfSong_98 : decode cX9_numberOfSong 98 = .ok (.iload_n 1, 1) := by decide +kernel
theorem dX9_numberOfSong_99 : decode cX9_numberOfSong 99 = .ok (.baload, 1) := by decide +kernel
theorem dX9_numberOfSong_100 : decode cX9_numberOfSong 100 = .ok (.ifCond .eq 7, 3) := by decide +kernel
theorem dX9_numberOfSong_103 : decode cX9_numberOfSong 103 = .ok (.iconst 1, 1) := by decide +kernel
theorem dX9_numberOfSong_104 : decode cX9_numberOfSong 104 = .ok (.goto 4, 3) := by decide +kernel
theorem dX9_numberOfSong_107 : decode cX9_numberOfSong 107 = .ok (.iconst 0, 1) := by decide +kernel
theorem dX9_numberOfSong_108 : decode cX9_numberOfSong 108 = .ok (.ireturn, 1) := by decide +kernel
theorem dX9_numberOfSong_109 : decode cX9_numberOfSong 109 = .ok (.aload_n 0, 1) := by decide +kernel
theorem dX9_numberOfSong_110 : decode cX9_numberOfSong 110 = .ok (.getfield 67, 3) := by decide +kernel
theorem dX9_numberOfSong_113 : decode cX9_numberOfSong 113 = .ok (.getfield 414, 3) := by decide +kernel
theorem dX9_numberOfSong_116 : decode cX9_numberOfSong 116 = .ok (.iload_n 1, 1) := by decide +kernel
theorem dX9_numberOfSong_117 : decode cX9_numberOfSong 117 = .ok (.iaload, 1) := by decide +kernel
theorem dX9_numberOfSong_118 : decode cX9_numberOfSong 118 = .ok (.ireturn, 1) := by decide +kernel
theorem dX9_numberOfSong_119 : decode cX9_numberOfSong 119 = .ok (.aload_n 0, 1) := by decide +kernel
theorem dX9_numberOfSong_120 : decode cX9_numberOfSong 120 = .ok (.getfield 67, 3) := by decide +kernel
theorem dX9_numberOfSong_123 : decode cX9_numberOfSong 123 = .ok (.getfield 296, 3) := by decide +kernel
theorem dX9_numberOfSong_126 : decode cX9_numberOfSong 126 = .ok (.iload_n 1, 1) := by decide +kernel
theorem dX9_numberOfSong_127 : decode cX9_numberOfSong 127 = .ok (.iaload, 1) := by decide +kernel
theorem dX9_numberOfSong_128 : decode cX9_numberOfSong 128 = .ok (.ireturn, 1) := by decide +kernel
theorem dX9_numberOfSong_129 : decode cX9_numberOfSong 129 = .ok (.aload_n 0, 1) := by decide +kernel
theorem dX9_numberOfSong_130 : decode cX9_numberOfSong 130 = .ok (.getfield 67, 3) := by decide +kernel
theorem dX9_numberOfSong_133 : decode cX9_numberOfSong 133 = .ok (.getfield 414, 3) := by decide +kernel
theorem dX9_numberOfSong_136 : decode cX9_numberOfSong 136 = .ok (.iload_n 1, 1) := by decide +kernel
theorem dX9_numberOfSong_137 : decode cX9_numberOfSong 137 = .ok (.iaload, 1) := by decide +kernel
theorem dX9_numberOfSong_138 : decode cX9_numberOfSong 138 = .ok (.aload_n 0, 1) := by decide +kernel
theorem dX9_numberOfSong_139 : decode cX9_numberOfSong 139 = .ok (.getfield 67, 3) := by decide +kernel
theorem dX9_numberOfSong_142 : decode cX9_numberOfSong 142 = .ok (.getfield 296, 3) := by decide +kernel
theorem dX9_numberOfSong_145 : decode cX9_numberOfSong 145 = .ok (.iload_n 1, 1) := by decide +kernel
theorem dX9_numberOfSong_146 : decode cX9_numberOfSong 146 = .ok (.iaload, 1) := by decide +kernel
theorem dX9_numberOfSong_147 : decode cX9_numberOfSong 147 = .ok (.iadd, 1) := by decide +kernel
theorem dX9_numberOfSong_148 : decode cX9_numberOfSong 148 = .ok (.ireturn, 1) := by decide +kernel
theorem dX9_numberOfSong_149 : decode cX9_numberOfSong 149 = .ok (.aload_n 0, 1) := by decide +kernel
theorem dX9_numberOfSong_150 : decode cX9_numberOfSong 150 = .ok (.getfield 67, 3) := by decide +kernel
theorem dX9_numberOfSong_153 : decode cX9_numberOfSong 153 = .ok (.iload_n 1, 1) := by decide +kernel
theorem dX9_numberOfSong_154 : decode cX9_numberOfSong 154 = .ok (.invokevirtual 417, 3) := by decide +kernel
theorem dX9_numberOfSong_157 : decode cX9_numberOfSong 157 = .ok (.ireturn, 1) := by decide +kernel
theorem dX9_numberOfSong_158 : decode cX9_numberOfSong 158 = .ok (.aload_n 0, 1) := by decide +kernel
theorem dX9_numberOfSong_159 : decode cX9_numberOfSong 159 = .ok (.getfield 76, 3) := by decide +kernel
theorem dX9_numberOfSong_162 : decode cX9_numberOfSong 162 = .ok (.iload_n 1, 1) := by decide +kernel
theorem dX9_numberOfSong_163 : decode cX9_numberOfSong 163 = .ok (.invokevirtual 420, 3) := by decide +kernel
theorem dX9_numberOfSong_166 : decode cX9_numberOfSong 166 = .ok (.aload_n 0, 1) := by decide +kernel
theorem dX9_numberOfSong_167 : decode cX9_numberOfSong 167 = .ok (.getfield 76, 3) := by decide +kernel
theorem dX9_numberOfSong_170 : decode cX9_numberOfSong 170 = .ok (.getfield 423, 3) := by decide +kernel
theorem dX9_numberOfSong_173 : decode cX9_numberOfSong 173 = .ok (.iload_n 1, 1) := by decide +kernel
theorem dX9_numberOfSong_174 : decode cX9_numberOfSong 174 = .ok (.iaload, 1) := by decide +kernel
theorem dX9_numberOfSong_175 : decode cX9_numberOfSong 175 = .ok (.iadd, 1) := by decide +kernel
theorem dX9_numberOfSong_176 : decode cX9_numberOfSong 176 = .ok (.ireturn, 1) := by decide +kernel
theorem dX9_numberOfContest_0 : decode cX9_numberOfContest 0 = .ok (.iload_n 1, 1) := by decide +kernel
theorem dX9_numberOfContest_1 : decode cX9_numberOfContest 1 = .ok (.tableswitch 132 0 10 #[59, 64, 69, 77, 85, 93, 101, 106, 114, 122, 127], 59) := by decide +kernel
theorem dX9_numberOfContest_60 : decode cX9_numberOfContest 60 = .ok (.aload_n 0, 1) := by decide +kernel
theorem dX9_numberOfContest_61 : decode cX9_numberOfContest 61 = .ok (.getfield 80, 3) := by decide +kernel
theorem dX9_numberOfContest_64 : decode cX9_numberOfContest 64 = .ok (.ireturn, 1) := by decide +kernel
theorem dX9_numberOfContest_65 : decode cX9_numberOfContest 65 = .ok (.aload_n 0, 1) := by decide +kernel
theorem dX9_numberOfContest_66 : decode cX9_numberOfContest 66 = .ok (.getfield 84, 3) := by decide +kernel
theorem dX9_numberOfContest_69 : decode cX9_numberOfContest 69 = .ok (.ireturn, 1) := by decide +kernel
theorem dX9_numberOfContest_70 : decode cX9_numberOfContest 70 = .ok (.aload_n 0, 1) := by decide +kernel
theorem dX9_numberOfContest_71 : decode cX9_numberOfContest 71 = .ok (.getfield 38, 3) := by decide +kernel
theorem dX9_numberOfContest_74 : decode cX9_numberOfContest 74 = .ok (.getfield 118, 3) := by decide +kernel
theorem dX9_numberOfContest_77 : decode cX9_numberOfContest 77 = .ok (.ireturn, 1) := by decide +kernel
theorem dX9_numberOfContest_78 : decode cX9_numberOfContest 78 = .ok (.aload_n 0, 1) := by decide +kernel
theorem dX9_numberOfContest_79 : decode cX9_numberOfContest 79 = .ok (.getfield 42, 3) := by decide +kernel
theorem dX9_numberOfContest_82 : decode cX9_numberOfContest 82 = .ok (.getfield 134, 3) := by decide +kernel
theorem dX9_numberOfContest_85 : decode cX9_numberOfContest 85 = .ok (.ireturn, 1) := by decide +kernel
theorem dX9_numberOfContest_86 : decode cX9_numberOfContest 86 = .ok (.aload_n 0, 1) := by decide +kernel
theorem dX9_numberOfContest_87 : decode cX9_numberOfContest 87 = .ok (.getfield 42, 3) := by decide +kernel
theorem dX9_numberOfContest_90 : decode cX9_numberOfContest 90 = .ok (.getfield 426, 3) := by decide +kernel
theorem dX9_numberOfContest_93 : decode cX9_numberOfContest 93 = .ok (.ireturn, 1) := by decide +kernel
theorem dX9_numberOfContest_94 : decode cX9_numberOfContest 94 = .ok (.aload_n 0, 1) := by decide +kernel
theorem dX9_numberOfContest_95 : decode cX9_numberOfContest 95 = .ok (.getfield 46, 3) := by decide +kernel
theorem dX9_numberOfContest_98 : decode cX9_numberOfContest 98 = .ok (.invokevirtual 195, 3) := by decide +kernel
theorem dX9_numberOfContest_101 : decode cX9_numberOfContest 101 = .ok (.ireturn, 1) := by decide +kernel
theorem dX9_numberOfContest_102 : decode cX9_numberOfContest 102 = .ok (.aload_n 0, 1) := by decide +kernel
theorem dX9_numberOfContest_103 : decode cX9_numberOfContest 103 = .ok (.invokevirtual 257, 3) := by decide +kernel
theorem dX9_numberOfContest_106 : decode cX9_numberOfContest 106 = .ok (.ireturn, 1) := by decide +kernel
theorem dX9_numberOfContest_107 : decode cX9_numberOfContest 107 = .ok (.aload_n 0, 1) := by decide +kernel
theorem dX9_numberOfContest_108 : decode cX9_numberOfContest 108 = .ok (.getfield 76, 3) := by decide +kernel
theorem dX9_numberOfContest_111 : decode cX9_numberOfContest 111 = .ok (.getfield 291, 3) := by decide +kernel
theorem dX9_numberOfContest_114 : decode cX9_numberOfContest 114 = .ok (.ireturn, 1) := by decide +kernel
theorem dX9_numberOfContest_115 : decode cX9_numberOfContest 115 = .ok (.aload_n 0, 1) := by decide +kernel
theorem dX9_numberOfContest_116 : decode cX9_numberOfContest 116 = .ok (.getfield 76, 3) := by decide +kernel
theorem dX9_numberOfContest_119 : decode cX9_numberOfContest 119 = .ok (.getfield 429, 3) := by decide +kernel
theorem dX9_numberOfContest_122 : decode cX9_numberOfContest 122 = .ok (.ireturn, 1) := by decide +kernel
theorem dX9_numberOfContest_123 : decode cX9_numberOfContest 123 = .ok (.aload_n 0, 1) := by decide +kernel
theorem dX9_numberOfContest_124 : decode cX9_numberOfContest 124 = .ok (.getfield 93, 3) := by decide +kernel
theorem dX9_numberOfContest_127 : decode cX9_numberOfContest 127 = .ok (.ireturn, 1) := by decide +kernel
theorem dX9_numberOfContest_128 : decode cX9_numberOfContest 128 = .ok (.aload_n 0, 1) := by decide +kernel
theorem dX9_numberOfContest_129 : decode cX9_numberOfContest 129 = .ok (.getfield 90, 3) := by decide +kernel
theorem dX9_numberOfContest_132 : decode cX9_numberOfContest 132 = .ok (.ireturn, 1) := by decide +kernel
theorem dX9_numberOfContest_133 : decode cX9_numberOfContest 133 = .ok (.aload_n 0, 1) := by decide +kernel
theorem dX9_numberOfContest_134 : decode cX9_numberOfContest 134 = .ok (.getfield 96, 3) := by decide +kernel
theorem dX9_numberOfContest_137 : decode cX9_numberOfContest 137 = .ok (.ireturn, 1) := by decide +kernel
theorem dX9_canStillChange_0 : decode cX9_canStillChange 0 = .ok (.aload_n 0, 1) := by decide +kernel
theorem dX9_canStillChange_1 : decode cX9_canStillChange 1 = .ok (.getfield 84, 3) := by decide +kernel
theorem dX9_canStillChange_4 : decode cX9_canStillChange 4 = .ok (.iconst 2, 1) := by decide +kernel
theorem dX9_canStillChange_5 : decode cX9_canStillChange 5 = .ok (.if_icmp .ne 35, 3) := by decide +kernel
theorem dX9_canStillChange_8 : decode cX9_canStillChange 8 = .ok (.aload_n 0, 1) := by decide +kernel
theorem dX9_canStillChange_9 : decode cX9_canStillChange 9 = .ok (.getfield 76, 3) := by decide +kernel
theorem dX9_canStillChange_12 : decode cX9_canStillChange 12 = .ok (.getfield 291, 3) := by decide +kernel
theorem dX9_canStillChange_15 : decode cX9_canStillChange 15 = .ok (.aload_n 0, 1) := by decide +kernel
theorem dX9_canStillChange_16 : decode cX9_canStillChange 16 = .ok (.getfield 38, 3) := by decide +kernel
theorem dX9_canStillChange_19 : decode cX9_canStillChange 19 = .ok (.getfield 118, 3) := by decide +kernel
theorem dX9_canStillChange_22 : decode cX9_canStillChange 22 = .ok (.if_icmp .ge 18, 3) := by decide +kernel
theorem dX9_canStillChange_25 : decode cX9_canStillChange 25 = .ok (.aload_n 0, 1) := by decide +kernel
theorem dX9_canStillChange_26 : decode cX9_canStillChange 26 = .ok (.getfield 76, 3) := by decide +kernel
theorem dX9_canStillChange_29 : decode cX9_canStillChange 29 = .ok (.invokevirtual 432, 3) := by decide +kernel
theorem dX9_canStillChange_32 : decode cX9_canStillChange 32 = .ok (.iconst 1, 1) := by decide +kernel
theorem dX9_canStillChange_33 : decode cX9_canStillChange 33 = .ok (.if_icmp .le 7, 3) := by decide +kernel
theorem dX9_canStillChange_36 : decode cX9_canStillChange 36 = .ok (.iconst 1, 1) := by decide +kernel
theorem dX9_canStillChange_37 : decode cX9_canStillChange 37 = .ok (.goto 4, 3) := by decide +kernel
theorem dX9_canStillChange_40 : decode cX9_canStillChange 40 = .ok (.iconst 0, 1) := by decide +kernel
theorem dX9_canStillChange_41 : decode cX9_canStillChange 41 = .ok (.ireturn, 1) := by decide +kernel
theorem dX9_closestLand_0 : decode cX9_closestLand 0 = .ok (.iconst (-1), 1) := by decide +kernel
theorem dX9_closestLand_1 : decode cX9_closestLand 1 = .ok (.istore_n 1, 1) := by decide +kernel
theorem dX9_closestLand_2 : decode cX9_closestLand 2 = .ok (.iconst 0, 1) := by decide +kernel
theorem dX9_closestLand_3 : decode cX9_closestLand 3 = .ok (.istore_n 2, 1) := by decide +kernel
theorem dX9_closestLand_4 : decode cX9_closestLand 4 = .ok (.iconst 0, 1) := by decide +kernel
theorem dX9_closestLand_5 : decode cX9_closestLand 5 = .ok (.istore_n 3, 1) := by decide +kernel
theorem dX9_closestLand_6 : decode cX9_closestLand 6 = .ok (.aload_n 0, 1) := by decide +kernel
theorem dX9_closestLand_7 : decode cX9_closestLand 7 = .ok (.getfield 84, 3) := by decide +kernel
theorem dX9_closestLand_10 : decode cX9_closestLand 10 = .ok (.iconst 2, 1) := by decide +kernel
theorem dX9_closestLand_11 : decode cX9_closestLand 11 = .ok (.if_icmp .ne 65, 3) := by decide +kernel
theorem dX9_closestLand_14 : decode cX9_closestLand 14 = .ok (.iload_n 3, 1) := by decide +kernel
theorem dX9_closestLand_15 : decode cX9_closestLand 15 = .ok (.aload_n 0, 1) := by decide +kernel
theorem dX9_closestLand_16 : decode cX9_closestLand 16 = .ok (.getfield 38, 3) := by decide +kernel
theorem dX9_closestLand_19 : decode cX9_closestLand 19 = .ok (.getfield 118, 3) := by decide +kernel
theorem dX9_closestLand_22 : decode cX9_closestLand 22 = .ok (.if_icmp .ge 54, 3) := by decide +kernel
theorem dX9_closestLand_25 : decode cX9_closestLand 25 = .ok (.aload_n 0, 1) := by decide +kernel
theorem dX9_closestLand_26 : decode cX9_closestLand 26 = .ok (.getfield 76, 3) := by decide +kernel
theorem dX9_closestLand_29 : decode cX9_closestLand 29 = .ok (.iload_n 3, 1) := by decide +kernel
theorem dX9_closestLand_30 : decode cX9_closestLand 30 = .ok (.invokevirtual 271, 3) := by decide +kernel
theorem dX9_closestLand_33 : decode cX9_closestLand 33 = .ok (.ifCond .eq 37, 3) := by decide +kernel
theorem dX9_closestLand_36 : decode cX9_closestLand 36 = .ok (.aload_n 0, 1) := by decide +kernel
theorem dX9_closestLand_37 : decode cX9_closestLand 37 = .ok (.getfield 76, 3) := by decide +kernel
theorem dX9_closestLand_40 : decode cX9_closestLand 40 = .ok (.aload_n 0, 1) := by decide +kernel
theorem dX9_closestLand_41 : decode cX9_closestLand 41 = .ok (.getfield 54, 3) := by decide +kernel
theorem dX9_closestLand_44 : decode cX9_closestLand 44 = .ok (.getfield 277, 3) := by decide +kernel
theorem dX9_closestLand_47 : decode cX9_closestLand 47 = .ok (.iload_n 3, 1) := by decide +kernel
theorem dX9_closestLand_48 : decode cX9_closestLand 48 = .ok (.aaload, 1) := by decide +kernel
theorem dX9_closestLand_49 : decode cX9_closestLand 49 = .ok (.invokevirtual 435, 3) := by decide +kernel
theorem dX9_closestLand_52 : decode cX9_closestLand 52 = .ok (.istore 4, 2) := by decide +kernel
theorem dX9_closestLand_54 : decode cX9_closestLand 54 = .ok (.iload_n 1, 1) := by decide +kernel
theorem dX9_closestLand_55 : decode cX9_closestLand 55 = .ok (.iconst (-1), 1) := by decide +kernel
theorem dX9_closestLand_56 : decode cX9_closestLand 56 = .ok (.if_icmp .eq 9, 3) := by decide +kernel
theorem dX9_closestLand_59 : decode cX9_closestLand 59 = .ok (.iload 4, 2) := by decide +kernel
theorem dX9_closestLand_61 : decode cX9_closestLand 61 = .ok (.iload_n 2, 1) := by decide +kernel
theorem dX9_closestLand_62 : decode cX9_closestLand 62 = .ok (.if_icmp .ge 8, 3) := by decide +kernel
theorem dX9_closestLand_65 : decode cX9_closestLand 65 = .ok (.iload_n 3, 1) := by decide +kernel
theorem dX9_closestLand_66 : decode cX9_closestLand 66 = .ok (.istore_n 1, 1) := by decide +kernel
theorem dX9_closestLand_67 : decode cX9_closestLand 67 = .ok (.iload 4, 2) := by decide +kernel
theorem dX9_closestLand_69 : decode cX9_closestLand 69 = .ok (.istore_n 2, 1) := by decide +kernel
theorem dX9_closestLand_70 : decode cX9_closestLand 70 = .ok (.iinc 3 1, 3) := by decide +kernel
theorem dX9_closestLand_73 : decode cX9_closestLand 73 = .ok (.goto (-67), 3) := by decide +kernel
theorem dX9_closestLand_76 : decode cX9_closestLand 76 = .ok (.iload_n 1, 1) := by decide +kernel
theorem dX9_closestLand_77 : decode cX9_closestLand 77 = .ok (.ireturn, 1) := by decide +kernel
theorem dX9_needLand_0 : decode cX9_needLand 0 = .ok (.iload_n 1, 1) := by decide +kernel
theorem dX9_needLand_1 : decode cX9_needLand 1 = .ok (.iconst 0, 1) := by decide +kernel
theorem dX9_needLand_2 : decode cX9_needLand 2 = .ok (.aload_n 0, 1) := by decide +kernel
theorem dX9_needLand_3 : decode cX9_needLand 3 = .ok (.getfield 38, 3) := by decide +kernel
theorem dX9_needLand_6 : decode cX9_needLand 6 = .ok (.getfield 118, 3) := by decide +kernel
theorem dX9_needLand_9 : decode cX9_needLand 9 = .ok (.iconst 1, 1) := by decide +kernel
theorem dX9_needLand_10 : decode cX9_needLand 10 = .ok (.isub, 1) := by decide +kernel
theorem dX9_needLand_11 : decode cX9_needLand 11 = .ok (.invokestatic 103, 3) := by decide +kernel
theorem dX9_needLand_14 : decode cX9_needLand 14 = .ok (.ifCond .ne 14, 3) := by decide +kernel
theorem dX9_needLand_17 : decode cX9_needLand 17 = .ok (.new 201, 3) := by decide +kernel
theorem dX9_needLand_20 : decode cX9_needLand 20 = .ok (.dup, 1) := by decide +kernel
theorem dX9_needLand_21 : decode cX9_needLand 21 = .ok (.ldc_w 439, 3) := by decide +kernel
theorem dX9_needLand_24 : decode cX9_needLand 24 = .ok (.invokespecial 205, 3) := by decide +kernel
theorem dX9_needLand_27 : decode cX9_needLand 27 = .ok (.athrow, 1) := by decide +kernel
theorem dX9_needLand_28 : decode cX9_needLand 28 = .ok (.return_, 1) := by decide +kernel
theorem dX9_needSong_0 : decode cX9_needSong 0 = .ok (.iload_n 1, 1) := by decide +kernel
theorem dX9_needSong_1 : decode cX9_needSong 1 = .ok (.iconst 0, 1) := by decide +kernel
theorem dX9_needSong_2 : decode cX9_needSong 2 = .ok (.bipush 7, 2) := by decide +kernel
theorem dX9_needSong_4 : decode cX9_needSong 4 = .ok (.invokestatic 103, 3) := by decide +kernel
theorem dX9_needSong_7 : decode cX9_needSong 7 = .ok (.ifCond .eq 15, 3) := by decide +kernel
theorem dX9_needSong_10 : decode cX9_needSong 10 = .ok (.aload_n 0, 1) := by decide +kernel
theorem dX9_needSong_11 : decode cX9_needSong 11 = .ok (.getfield 42, 3) := by decide +kernel
theorem dX9_needSong_14 : decode cX9_needSong 14 = .ok (.getfield 157, 3) := by decide +kernel
theorem dX9_needSong_17 : decode cX9_needSong 17 = .ok (.iload_n 1, 1) := by decide +kernel
theorem dX9_needSong_18 : decode cX9_needSong 18 = .ok (.baload, 1) := by decide +kernel
theorem dX9_needSong_19 : decode cX9_needSong 19 = .ok (.ifCond .ne 14, 3) := by decide +kernel
theorem dX9_needSong_22 : decode cX9_needSong 22 = .ok (.new 201, 3) := by decide +kernel
theorem dX9_needSong_25 : decode cX9_needSong 25 = .ok (.dup, 1) := by decide +kernel
theorem dX9_needSong_26 : decode cX9_needSong 26 = .ok (.ldc_w 441, 3) := by decide +kernel
theorem dX9_needSong_29 : decode cX9_needSong 29 = .ok (.invokespecial 205, 3) := by decide +kernel
theorem dX9_needSong_32 : decode cX9_needSong 32 = .ok (.athrow, 1) := by decide +kernel
theorem dX9_needSong_33 : decode cX9_needSong 33 = .ok (.return_, 1) := by decide +kernel
theorem dX9_needPhase_0 : decode cX9_needPhase 0 = .ok (.aload_n 0, 1) := by decide +kernel
theorem dX9_needPhase_1 : decode cX9_needPhase 1 = .ok (.getfield 84, 3) := by decide +kernel
theorem dX9_needPhase_4 : decode cX9_needPhase 4 = .ok (.iload_n 1, 1) := by decide +kernel
theorem dX9_needPhase_5 : decode cX9_needPhase 5 = .ok (.if_icmp .eq 14, 3) := by decide +kernel
theorem dX9_needPhase_8 : decode cX9_needPhase 8 = .ok (.new 121, 3) := by decide +kernel
theorem dX9_needPhase_11 : decode cX9_needPhase 11 = .ok (.dup, 1) := by decide +kernel
theorem dX9_needPhase_12 : decode cX9_needPhase 12 = .ok (.ldc_w 443, 3) := by decide +kernel
theorem dX9_needPhase_15 : decode cX9_needPhase 15 = .ok (.invokespecial 125, 3) := by decide +kernel
theorem dX9_needPhase_18 : decode cX9_needPhase 18 = .ok (.athrow, 1) := by decide +kernel
theorem dX9_needPhase_19 : decode cX9_needPhase 19 = .ok (.return_, 1) := by decide +kernel
theorem dX9_canMove_0 : decode cX9_canMove 0 = .ok (.aload_n 0, 1) := by decide +kernel
theorem dX9_canMove_1 : decode cX9_canMove 1 = .ok (.getfield 84, 3) := by decide +kernel
theorem dX9_canMove_4 : decode cX9_canMove 4 = .ok (.ifCond .eq 11, 3) := by decide +kernel
theorem dX9_canMove_7 : decode cX9_canMove 7 = .ok (.aload_n 0, 1) := by decide +kernel
theorem dX9_canMove_8 : decode cX9_canMove 8 = .ok (.getfield 84, 3) := by decide +kernel
theorem dX9_canMove_11 : decode cX9_canMove 11 = .ok (.iconst 1, 1) := by decide +kernel
theorem dX9_canMove_12 : decode cX9_canMove 12 = .ok (.if_icmp .ne 7, 3) := by decide +kernel
theorem dX9_canMove_15 : decode cX9_canMove 15 = .ok (.iconst 1, 1) := by decide +kernel
theorem dX9_canMove_16 : decode cX9_canMove 16 = .ok (.goto 4, 3) := by decide +kernel
theorem dX9_canMove_19 : decode cX9_canMove 19 = .ok (.iconst 0, 1) := by decide +kernel
theorem dX9_canMove_20 : decode cX9_canMove 20 = .ok (.ireturn, 1) := by decide +kernel
theorem dX9_count_0 : decode cX9_count 0 = .ok (.aload_n 0, 1) := by decide +kernel
theorem dX9_count_1 : decode cX9_count 1 = .ok (.getfield 99, 3) := by decide +kernel
theorem dX9_count_4 : decode cX9_count 4 = .ok (.ifCond .eq 4, 3) := by decide +kernel
theorem dX9_count_7 : decode cX9_count 7 = .ok (.return_, 1) := by decide +kernel
theorem dX9_count_8 : decode cX9_count 8 = .ok (.aload_n 0, 1) := by decide +kernel
theorem dX9_count_9 : decode cX9_count 9 = .ok (.getfield 54, 3) := by decide +kernel
theorem dX9_count_12 : decode cX9_count 12 = .ok (.aload_n 0, 1) := by decide +kernel
theorem dX9_count_13 : decode cX9_count 13 = .ok (.getfield 32, 3) := by decide +kernel
theorem dX9_count_16 : decode cX9_count 16 = .ok (.getfield 149, 3) := by decide +kernel
theorem dX9_count_19 : decode cX9_count 19 = .ok (.invokevirtual 445, 3) := by decide +kernel
theorem dX9_count_22 : decode cX9_count 22 = .ok (.iconst 0, 1) := by decide +kernel
theorem dX9_count_23 : decode cX9_count 23 = .ok (.istore_n 1, 1) := by decide +kernel
theorem dX9_count_24 : decode cX9_count 24 = .ok (.iload_n 1, 1) := by decide +kernel
theorem dX9_count_25 : decode cX9_count 25 = .ok (.aload_n 0, 1) := by decide +kernel
theorem dX9_count_26 : decode cX9_count 26 = .ok (.getfield 38, 3) := by decide +kernel
theorem dX9_count_29 : decode cX9_count 29 = .ok (.getfield 118, 3) := by decide +kernel
theorem dX9_count_32 : decode cX9_count 32 = .ok (.if_icmp .ge 48, 3) := by decide +kernel
theorem dX9_count_35 : decode cX9_count 35 = .ok (.aload_n 0, 1) := by decide +kernel
theorem dX9_count_36 : decode cX9_count 36 = .ok (.getfield 58, 3) := by decide +kernel
theorem dX9_count_39 : decode cX9_count 39 = .ok (.iload_n 1, 1) := by decide +kernel
theorem dX9_count_40 : decode cX9_count 40 = .ok (.aload_n 0, 1) := by decide +kernel
theorem dX9_count_41 : decode cX9_count 41 = .ok (.getfield 32, 3) := by decide +kernel
theorem dX9_count_44 : decode cX9_count 44 = .ok (.getfield 143, 3) := by decide +kernel
theorem dX9_count_47 : decode cX9_count 47 = .ok (.invokevirtual 449, 3) := by decide +kernel
theorem dX9_count_50 : decode cX9_count 50 = .ok (.aload_n 0, 1) := by decide +kernel
theorem dX9_count_51 : decode cX9_count 51 = .ok (.getfield 58, 3) := by decide +kernel
theorem dX9_count_54 : decode cX9_count 54 = .ok (.iload_n 1, 1) := by decide +kernel
theorem dX9_count_55 : decode cX9_count 55 = .ok (.aload_n 0, 1) := by decide +kernel
theorem dX9_count_56 : decode cX9_count 56 = .ok (.getfield 32, 3) := by decide +kernel
theorem dX9_count_59 : decode cX9_count 59 = .ok (.getfield 146, 3) := by decide +kernel
theorem dX9_count_62 : decode cX9_count 62 = .ok (.aload_n 0, 1) := by decide +kernel
theorem dX9_count_63 : decode cX9_count 63 = .ok (.getfield 54, 3) := by decide +kernel
theorem dX9_count_66 : decode cX9_count 66 = .ok (.getfield 277, 3) := by decide +kernel
theorem dX9_count_69 : decode cX9_count 69 = .ok (.iload_n 1, 1) := by decide +kernel
theorem dX9_count_70 : decode cX9_count 70 = .ok (.aaload, 1) := by decide +kernel
theorem dX9_count_71 : decode cX9_count 71 = .ok (.invokevirtual 452, 3) := by decide +kernel
theorem dX9_count_74 : decode cX9_count 74 = .ok (.iinc 1 1, 3) := by decide +kernel
theorem dX9_count_77 : decode cX9_count 77 = .ok (.goto (-53), 3) := by decide +kernel
theorem dX9_count_80 : decode cX9_count 80 = .ok (.aload_n 0, 1) := by decide +kernel
theorem dX9_count_81 : decode cX9_count 81 = .ok (.getfield 67, 3) := by decide +kernel
theorem dX9_count_84 : decode cX9_count 84 = .ok (.invokevirtual 456, 3) := by decide +kernel
theorem dX9_count_87 : decode cX9_count 87 = .ok (.aload_n 0, 1) := by decide +kernel
theorem dX9_count_88 : decode cX9_count 88 = .ok (.iconst 1, 1) := by decide +kernel
theorem dX9_count_89 : decode cX9_count 89 = .ok (.putfield 99, 3) := by decide +kernel
theorem dX9_count_92 : decode cX9_count 92 = .ok (.return_, 1) := by decide +kernel
theorem dX9_voidJuries_0 : decode cX9_voidJuries 0 = .ok (.iconst 0, 1) := by decide +kernel
theorem dX9_voidJuries_1 : decode cX9_voidJuries 1 = .ok (.istore_n 1, 1) := by decide +kernel
theorem dX9_voidJuries_2 : decode cX9_voidJuries 2 = .ok (.iconst 0, 1) := by decide +kernel
theorem dX9_voidJuries_3 : decode cX9_voidJuries 3 = .ok (.istore_n 2, 1) := by decide +kernel
theorem dX9_voidJuries_4 : decode cX9_voidJuries 4 = .ok (.iload_n 2, 1) := by decide +kernel
theorem dX9_voidJuries_5 : decode cX9_voidJuries 5 = .ok (.aload_n 0, 1) := by decide +kernel
theorem dX9_voidJuries_6 : decode cX9_voidJuries 6 = .ok (.getfield 38, 3) := by decide +kernel
theorem dX9_voidJuries_9 : decode cX9_voidJuries 9 = .ok (.getfield 118, 3) := by decide +kernel
theorem dX9_voidJuries_12 : decode cX9_voidJuries 12 = .ok (.if_icmp .ge 29, 3) := by decide +kernel
theorem dX9_voidJuries_15 : decode cX9_voidJuries 15 = .ok (.iload_n 1, 1) := by decide +kernel
theorem dX9_voidJuries_16 : decode cX9_voidJuries 16 = .ok (.aload_n 0, 1) := by decide +kernel
theorem dX9_voidJuries_17 : decode cX9_voidJuries 17 = .ok (.getfield 54, 3) := by decide +kernel
theorem dX9_voidJuries_20 : decode cX9_voidJuries 20 = .ok (.getfield 393, 3) := by decide +kernel
theorem dX9_voidJuries_23 : decode cX9_voidJuries 23 = .ok (.iload_n 2, 1) := by decide +kernel
theorem dX9_voidJuries_24 : decode cX9_voidJuries 24 = .ok (.baload, 1) := by decide +kernel
theorem dX9_voidJuries_25 : decode cX9_voidJuries 25 = .ok (.ifCond .eq 7, 3) := by decide +kernel
theorem dX9_voidJuries_28 : decode cX9_voidJuries 28 = .ok (.iconst 1, 1) := by decide +kernel
theorem dX9_voidJuries_29 : decode cX9_voidJuries 29 = .ok (.goto 4, 3) := by decide +kernel
theorem dX9_voidJuries_32 : decode cX9_voidJuries 32 = .ok (.iconst 0, 1) := by decide +kernel
theorem dX9_voidJuries_33 : decode cX9_voidJuries 33 = .ok (.iadd, 1) := by decide +kernel
theorem dX9_voidJuries_34 : decode cX9_voidJuries 34 = .ok (.istore_n 1, 1) := by decide +kernel
theorem dX9_voidJuries_35 : decode cX9_voidJuries 35 = .ok (.iinc 2 1, 3) := by decide +kernel
theorem dX9_voidJuries_38 : decode cX9_voidJuries 38 = .ok (.goto (-34), 3) := by decide +kernel
theorem dX9_voidJuries_41 : decode cX9_voidJuries 41 = .ok (.iload_n 1, 1) := by decide +kernel
theorem dX9_voidJuries_42 : decode cX9_voidJuries 42 = .ok (.ireturn, 1) := by decide +kernel
theorem dX9_findHost_0 : decode cX9_findHost 0 = .ok (.iconst 0, 1) := by decide +kernel
theorem dX9_findHost_1 : decode cX9_findHost 1 = .ok (.istore_n 1, 1) := by decide +kernel
theorem dX9_findHost_2 : decode cX9_findHost 2 = .ok (.iload_n 1, 1) := by decide +kernel
theorem dX9_findHost_3 : decode cX9_findHost 3 = .ok (.aload_n 0, 1) := by decide +kernel
theorem dX9_findHost_4 : decode cX9_findHost 4 = .ok (.getfield 42, 3) := by decide +kernel
theorem dX9_findHost_7 : decode cX9_findHost 7 = .ok (.invokevirtual 241, 3) := by decide +kernel
theorem dX9_findHost_10 : decode cX9_findHost 10 = .ok (.if_icmp .ge 47, 3) := by decide +kernel
theorem dX9_findHost_13 : decode cX9_findHost 13 = .ok (.aload_n 0, 1) := by decide +kernel
theorem dX9_findHost_14 : decode cX9_findHost 14 = .ok (.getfield 67, 3) := by decide +kernel
theorem dX9_findHost_17 : decode cX9_findHost 17 = .ok (.iload_n 1, 1) := by decide +kernel
theorem dX9_findHost_18 : decode cX9_findHost 18 = .ok (.invokevirtual 310, 3) := by decide +kernel
theorem dX9_findHost_21 : decode cX9_findHost 21 = .ok (.istore_n 2, 1) := by decide +kernel
theorem dX9_findHost_22 : decode cX9_findHost 22 = .ok (.iload_n 2, 1) := by decide +kernel
theorem dX9_findHost_23 : decode cX9_findHost 23 = .ok (.iconst (-1), 1) := by decide +kernel
theorem dX9_findHost_24 : decode cX9_findHost 24 = .ok (.if_icmp .eq 27, 3) := by decide +kernel
theorem dX9_findHost_27 : decode cX9_findHost 27 = .ok (.aload_n 0, 1) := by decide +kernel
theorem dX9_findHost_28 : decode cX9_findHost 28 = .ok (.getfield 38, 3) := by decide +kernel
theorem dX9_findHost_31 : decode cX9_findHost 31 = .ok (.getfield 384, 3) := by decide +kernel
theorem dX9_findHost_34 : decode cX9_findHost 34 = .ok (.iload_n 2, 1) := by decide +kernel
theorem dX9_findHost_35 : decode cX9_findHost 35 = .ok (.iaload, 1) := by decide +kernel
theorem dX9_findHost_36 : decode cX9_findHost 36 = .ok (.bipush 40, 2) := by decide +kernel
theorem dX9_findHost_38 : decode cX9_findHost 38 = .ok (.aload_n 0, 1) := by decide +kernel
theorem dX9_findHost_39 : decode cX9_findHost 39 = .ok (.getfield 42, 3) := by decide +kernel
theorem dX9_findHost_42 : decode cX9_findHost 42 = .ok (.getfield 134, 3) := by decide +kernel
theorem dX9_findHost_45 : decode cX9_findHost 45 = .ok (.imul, 1) := by decide +kernel
theorem dX9_findHost_46 : decode cX9_findHost 46 = .ok (.if_icmp .lt 5, 3) := by decide +kernel
theorem dX9_findHost_49 : decode cX9_findHost 49 = .ok (.iload_n 2, 1) := by decide +kernel
theorem dX9_findHost_50 : decode cX9_findHost 50 = .ok (.ireturn, 1) := by decide +kernel
theorem dX9_findHost_51 : decode cX9_findHost 51 = .ok (.iinc 1 1, 3) := by decide +kernel
theorem dX9_findHost_54 : decode cX9_findHost 54 = .ok (.goto (-52), 3) := by decide +kernel
theorem dX9_findHost_57 : decode cX9_findHost 57 = .ok (.iconst (-1), 1) := by decide +kernel
theorem dX9_findHost_58 : decode cX9_findHost 58 = .ok (.ireturn, 1) := by decide +kernel
theorem dX9_isWithin_0 : decode cX9_isWithin 0 = .ok (.iload_n 0, 1) := by decide +kernel
theorem dX9_isWithin_1 : decode cX9_isWithin 1 = .ok (.iload_n 1, 1) := by decide +kernel
theorem dX9_isWithin_2 : decode cX9_isWithin 2 = .ok (.if_icmp .lt 12, 3) := by decide +kernel
theorem dX9_isWithin_5 : decode cX9_isWithin 5 = .ok (.iload_n 0, 1) := by decide +kernel
theorem dX9_isWithin_6 : decode cX9_isWithin 6 = .ok (.iload_n 2, 1) := by decide +kernel
theorem dX9_isWithin_7 : decode cX9_isWithin 7 = .ok (.if_icmp .gt 7, 3) := by decide +kernel
theorem dX9_isWithin_10 : decode cX9_isWithin 10 = .ok (.iconst 1, 1) := by decide +kernel
theorem dX9_isWithin_11 : decode cX9_isWithin 11 = .ok (.goto 4, 3) := by decide +kernel
theorem dX9_isWithin_14 : decode cX9_isWithin 14 = .ok (.iconst 0, 1) := by decide +kernel
theorem dX9_isWithin_15 : decode cX9_isWithin 15 = .ok (.ireturn, 1) := by decide +kernel
theorem dX9_weight_0 : decode cX9_weight 0 = .ok (.iload_n 0, 1) := by decide +kernel
theorem dX9_weight_1 : decode cX9_weight 1 = .ok (.ifCond .lt 19, 3) := by decide +kernel
theorem dX9_weight_4 : decode cX9_weight 4 = .ok (.iload_n 0, 1) := by decide +kernel
theorem dX9_weight_5 : decode cX9_weight 5 = .ok (.getstatic 458, 3) := by decide +kernel
theorem dX9_weight_8 : decode cX9_weight 8 = .ok (.arraylength, 1) := by decide +kernel
theorem dX9_weight_9 : decode cX9_weight 9 = .ok (.if_icmp .ge 11, 3) := by decide +kernel
theorem dX9_weight_12 : decode cX9_weight 12 = .ok (.getstatic 458, 3) := by decide +kernel
theorem dX9_weight_15 : decode cX9_weight 15 = .ok (.iload_n 0, 1) := by decide +kernel
theorem dX9_weight_16 : decode cX9_weight 16 = .ok (.iaload, 1) := by decide +kernel
theorem dX9_weight_17 : decode cX9_weight 17 = .ok (.goto 4, 3) := by decide +kernel
theorem dX9_weight_20 : decode cX9_weight 20 = .ok (.iconst 0, 1) := by decide +kernel
theorem dX9_weight_21 : decode cX9_weight 21 = .ok (.ireturn, 1) := by decide +kernel
theorem dX9_ordersOf_0 : decode cX9_ordersOf 0 = .ok (.iconst 1, 1) := by decide +kernel
theorem dX9_ordersOf_1 : decode cX9_ordersOf 1 = .ok (.istore_n 1, 1) := by decide +kernel
theorem dX9_ordersOf_2 : decode cX9_ordersOf 2 = .ok (.iconst 2, 1) := by decide +kernel
theorem dX9_ordersOf_3 : decode cX9_ordersOf 3 = .ok (.istore_n 2, 1) := by decide +kernel
theorem dX9_ordersOf_4 : decode cX9_ordersOf 4 = .ok (.iload_n 2, 1) := by decide +kernel
theorem dX9_ordersOf_5 : decode cX9_ordersOf 5 = .ok (.iload_n 0, 1) := by decide +kernel
theorem dX9_ordersOf_6 : decode cX9_ordersOf 6 = .ok (.if_icmp .gt 13, 3) := by decide +kernel
theorem dX9_ordersOf_9 : decode cX9_ordersOf 9 = .ok (.iload_n 1, 1) := by decide +kernel
theorem dX9_ordersOf_10 : decode cX9_ordersOf 10 = .ok (.iload_n 2, 1) := by decide +kernel
theorem dX9_ordersOf_11 : decode cX9_ordersOf 11 = .ok (.imul, 1) := by decide +kernel
theorem dX9_ordersOf_12 : decode cX9_ordersOf 12 = .ok (.istore_n 1, 1) := by decide +kernel
theorem dX9_ordersOf_13 : decode cX9_ordersOf 13 = .ok (.iinc 2 1, 3) := by decide +kernel
theorem dX9_ordersOf_16 : decode cX9_ordersOf 16 = .ok (.goto (-12), 3) := by decide +kernel
theorem dX9_ordersOf_19 : decode cX9_ordersOf 19 = .ok (.iload_n 1, 1) := by decide +kernel
theorem dX9_ordersOf_20 : decode cX9_ordersOf 20 = .ok (.ireturn, 1) := by decide +kernel
theorem dX9_sortDown_0 : decode cX9_sortDown 0 = .ok (.iconst 1, 1) := by decide +kernel
theorem dX9_sortDown_1 : decode cX9_sortDown 1 = .ok (.istore_n 3, 1) := by decide +kernel
theorem dX9_sortDown_2 : decode cX9_sortDown 2 = .ok (.iload_n 3, 1) := by decide +kernel
theorem dX9_sortDown_3 : decode cX9_sortDown 3 = .ok (.iload_n 1, 1) := by decide +kernel
theorem dX9_sortDown_4 : decode cX9_sortDown 4 = .ok (.if_icmp .ge 59, 3) := by decide +kernel
theorem dX9_sortDown_7 : decode cX9_sortDown 7 = .ok (.aload_n 0, 1) := by decide +kernel
theorem dX9_sortDown_8 : decode cX9_sortDown 8 = .ok (.iload_n 3, 1) := by decide +kernel
theorem dX9_sortDown_9 : decode cX9_sortDown 9 = .ok (.iaload, 1) := by decide +kernel
theorem dX9_sortDown_10 : decode cX9_sortDown 10 = .ok (.istore 4, 2) := by decide +kernel
theorem dX9_sortDown_12 : decode cX9_sortDown 12 = .ok (.iload_n 3, 1) := by decide +kernel
theorem dX9_sortDown_13 : decode cX9_sortDown 13 = .ok (.istore 5, 2) := by decide +kernel
theorem dX9_sortDown_15 : decode cX9_sortDown 15 = .ok (.iload 5, 2) := by decide +kernel
theorem dX9_sortDown_17 : decode cX9_sortDown 17 = .ok (.ifCond .le 34, 3) := by decide +kernel
theorem dX9_sortDown_20 : decode cX9_sortDown 20 = .ok (.aload_n 2, 1) := by decide +kernel
theorem dX9_sortDown_21 : decode cX9_sortDown 21 = .ok (.aload_n 0, 1) := by decide +kernel
theorem dX9_sortDown_22 : decode cX9_sortDown 22 = .ok (.iload 5, 2) := by decide +kernel
theorem dX9_sortDown_24 : decode cX9_sortDown 24 = .ok (.iconst 1, 1) := by decide +kernel
theorem dX9_sortDown_25 : decode cX9_sortDown 25 = .ok (.isub, 1) := by decide +kernel
theorem dX9_sortDown_26 : decode cX9_sortDown 26 = .ok (.iaload, 1) := by decide +kernel
theorem dX9_sortDown_27 : decode cX9_sortDown 27 = .ok (.iaload, 1) := by decide +kernel
theorem dX9_sortDown_28 : decode cX9_sortDown 28 = .ok (.aload_n 2, 1) := by decide +kernel
theorem dX9_sortDown_29 : decode cX9_sortDown 29 = .ok (.iload 4, 2) := by decide +kernel
theorem dX9_sortDown_31 : decode cX9_sortDown 31 = .ok (.iaload, 1) := by decide +kernel
theorem dX9_sortDown_32 : decode cX9_sortDown 32 = .ok (.if_icmp .ge 19, 3) := by decide +kernel
theorem dX9_sortDown_35 : decode cX9_sortDown 35 = .ok (.aload_n 0, 1) := by decide +kernel
theorem dX9_sortDown_36 : decode cX9_sortDown 36 = .ok (.iload 5, 2) := by decide +kernel
theorem dX9_sortDown_38 : decode cX9_sortDown 38 = .ok (.aload_n 0, 1) := by decide +kernel
theorem dX9_sortDown_39 : decode cX9_sortDown 39 = .ok (.iload 5, 2) := by decide +kernel
theorem dX9_sortDown_41 : decode cX9_sortDown 41 = .ok (.iconst 1, 1) := by decide +kernel
theorem dX9_sortDown_42 : decode cX9_sortDown 42 = .ok (.isub, 1) := by decide +kernel
theorem dX9_sortDown_43 : decode cX9_sortDown 43 = .ok (.iaload, 1) := by decide +kernel
theorem dX9_sortDown_44 : decode cX9_sortDown 44 = .ok (.iastore, 1) := by decide +kernel
theorem dX9_sortDown_45 : decode cX9_sortDown 45 = .ok (.iinc 5 (-1), 3) := by decide +kernel
theorem dX9_sortDown_48 : decode cX9_sortDown 48 = .ok (.goto (-33), 3) := by decide +kernel
theorem dX9_sortDown_51 : decode cX9_sortDown 51 = .ok (.aload_n 0, 1) := by decide +kernel
theorem dX9_sortDown_52 : decode cX9_sortDown 52 = .ok (.iload 5, 2) := by decide +kernel
