theorem dX0_init_0 : decode cX0_init 0 = .ok (.aload_n 0, 1) := by decide +kernel
theorem dX0_init_1 : decode cX0_init 1 = .ok (.invokespecial 3, 3) := by decide +kernel
theorem dX0_init_4 : decode cX0_init 4 = .ok (.aload_n 0, 1) := by decide +kernel
theorem dX0_init_5 : decode cX0_init 5 = .ok (.bipush 40, 2) := by decide +kernel
theorem dX0_init_7 : decode cX0_init 7 = .ok (.bipush 8, 2) := by decide +kernel
theorem dX0_init_9 : decode cX0_init 9 = .ok (.multianewarray 9 2, 4) := by decide +kernel
theorem dX0_init_13 : decode cX0_init 13 = .ok (.putfield 11, 3) := by decide +kernel
theorem dX0_init_16 : decode cX0_init 16 = .ok (.aload_n 0, 1) := by decide +kernel
theorem dX0_init_17 : decode cX0_init 17 = .ok (.bipush 40, 2) := by decide +kernel
theorem dX0_init_19 : decode cX0_init 19 = .ok (.newarray .int, 2) := by decide +kernel
theorem dX0_init_21 : decode cX0_init 21 = .ok (.putfield 16, 3) := by decide +kernel
theorem dX0_init_24 : decode cX0_init 24 = .ok (.aload_n 0, 1) := by decide +kernel
theorem dX0_init_25 : decode cX0_init 25 = .ok (.bipush 40, 2) := by decide +kernel
theorem dX0_init_27 : decode cX0_init 27 = .ok (.newarray .boolean, 2) := by decide +kernel
theorem dX0_init_29 : decode cX0_init 29 = .ok (.putfield 20, 3) := by decide +kernel
theorem dX0_init_32 : decode cX0_init 32 = .ok (.aload_n 0, 1) := by decide +kernel
theorem dX0_init_33 : decode cX0_init 33 = .ok (.bipush 8, 2) := by decide +kernel
theorem dX0_init_35 : decode cX0_init 35 = .ok (.newarray .int, 2) := by decide +kernel
theorem dX0_init_37 : decode cX0_init 37 = .ok (.putfield 24, 3) := by decide +kernel
theorem dX0_init_40 : decode cX0_init 40 = .ok (.aload_n 0, 1) := by decide +kernel
theorem dX0_init_41 : decode cX0_init 41 = .ok (.aload_n 1, 1) := by decide +kernel
theorem dX0_init_42 : decode cX0_init 42 = .ok (.putfield 27, 3) := by decide +kernel
theorem dX0_init_45 : decode cX0_init 45 = .ok (.return_, 1) := by decide +kernel
theorem dX0_numberOf_0 : decode cX0_numberOf 0 = .ok (.iload_n 0, 1) := by decide +kernel
theorem dX0_numberOf_1 : decode cX0_numberOf 1 = .ok (.iconst 5, 1) := by decide +kernel
theorem dX0_numberOf_2 : decode cX0_numberOf 2 = .ok (.imul, 1) := by decide +kernel
theorem dX0_numberOf_3 : decode cX0_numberOf 3 = .ok (.iload_n 1, 1) := by decide +kernel
theorem dX0_numberOf_4 : decode cX0_numberOf 4 = .ok (.iadd, 1) := by decide +kernel
theorem dX0_numberOf_5 : decode cX0_numberOf 5 = .ok (.ireturn, 1) := by decide +kernel
theorem dX0_write_0 : decode cX0_write 0 = .ok (.iload_n 1, 1) := by decide +kernel
theorem dX0_write_1 : decode cX0_write 1 = .ok (.iload_n 2, 1) := by decide +kernel
theorem dX0_write_2 : decode cX0_write 2 = .ok (.invokestatic 31, 3) := by decide +kernel
theorem dX0_write_5 : decode cX0_write 5 = .ok (.istore 4, 2) := by decide +kernel
theorem dX0_write_7 : decode cX0_write 7 = .ok (.aload_n 0, 1) := by decide +kernel
theorem dX0_write_8 : decode cX0_write 8 = .ok (.getfield 27, 3) := by decide +kernel
theorem dX0_write_11 : decode cX0_write 11 = .ok (.iload_n 1, 1) := by decide +kernel
theorem dX0_write_12 : decode cX0_write 12 = .ok (.aload_n 0, 1) := by decide +kernel
theorem dX0_write_13 : decode cX0_write 13 = .ok (.getfield 24, 3) := by decide +kernel
theorem dX0_write_16 : decode cX0_write 16 = .ok (.invokevirtual 35, 3) := by decide +kernel
theorem dX0_write_19 : decode cX0_write 19 = .ok (.istore 5, 2) := by decide +kernel
theorem dX0_write_21 : decode cX0_write 21 = .ok (.iload_n 3, 1) := by decide +kernel
theorem dX0_write_22 : decode cX0_write 22 = .ok (.istore 6, 2) := by decide +kernel
theorem dX0_write_24 : decode cX0_write 24 = .ok (.iconst 0, 1) := by decide +kernel
theorem dX0_write_25 : decode cX0_write 25 = .ok (.istore 7, 2) := by decide +kernel
theorem dX0_write_27 : decode cX0_write 27 = .ok (.iload 7, 2) := by decide +kernel
theorem dX0_write_29 : decode cX0_write 29 = .ok (.iload 5, 2) := by decide +kernel
theorem dX0_write_31 : decode cX0_write 31 = .ok (.if_icmp .ge 105, 3) := by decide +kernel
theorem dX0_write_34 : decode cX0_write 34 = .ok (.iload 5, 2) := by decide +kernel
theorem dX0_write_36 : decode cX0_write 36 = .ok (.iconst 1, 1) := by decide +kernel
theorem dX0_write_37 : decode cX0_write 37 = .ok (.isub, 1) := by decide +kernel
theorem dX0_write_38 : decode cX0_write 38 = .ok (.iload 7, 2) := by decide +kernel
theorem dX0_write_40 : decode cX0_write 40 = .ok (.isub, 1) := by decide +kernel
theorem dX0_write_41 : decode cX0_write 41 = .ok (.istore 8, 2) := by decide +kernel
theorem dX0_write_43 : decode cX0_write 43 = .ok (.iload 8, 2) := by decide +kernel
theorem dX0_write_45 : decode cX0_write 45 = .ok (.invokestatic 41, 3) := by decide +kernel
theorem dX0_write_48 : decode cX0_write 48 = .ok (.istore 9, 2) := by decide +kernel
theorem dX0_write_50 : decode cX0_write 50 = .ok (.iconst 0, 1) := by decide +kernel
theorem dX0_write_51 : decode cX0_write 51 = .ok (.istore 10, 2) := by decide +kernel
theorem dX0_write_53 : decode cX0_write 53 = .ok (.iload 10, 2) := by decide +kernel
theorem dX0_write_55 : decode cX0_write 55 = .ok (.iload 8, 2) := by decide +kernel
theorem dX0_write_57 : decode cX0_write 57 = .ok (.if_icmp .ge 23, 3) := by decide +kernel
theorem dX0_write_60 : decode cX0_write 60 = .ok (.iload 6, 2) := by decide +kernel
theorem dX0_write_62 : decode cX0_write 62 = .ok (.iload 9, 2) := by decide +kernel
theorem dX0_write_64 : decode cX0_write 64 = .ok (.if_icmp .lt 16, 3) := by decide +kernel
theorem dX0_write_67 : decode cX0_write 67 = .ok (.iload 6, 2) := by decide +kernel
theorem dX0_write_69 : decode cX0_write 69 = .ok (.iload 9, 2) := by decide +kernel
theorem dX0_write_71 : decode cX0_write 71 = .ok (.isub, 1) := by decide +kernel
theorem dX0_write_72 : decode cX0_write 72 = .ok (.istore 6, 2) := by decide +kernel
theorem dX0_write_74 : decode cX0_write 74 = .ok (.iinc 10 1, 3) := by decide +kernel
theorem dX0_write_77 : decode cX0_write 77 = .ok (.goto (-24), 3) := by decide +kernel
theorem dX0_write_80 : decode cX0_write 80 = .ok (.aload_n 0, 1) := by decide +kernel
theorem dX0_write_81 : decode cX0_write 81 = .ok (.getfield 11, 3) := by decide +kernel
theorem dX0_write_84 : decode cX0_write 84 = .ok (.iload 4, 2) := by decide +kernel
theorem dX0_write_86 : decode cX0_write 86 = .ok (.aaload, 1) := by decide +kernel
theorem dX0_write_87 : decode cX0_write 87 = .ok (.iload 7, 2) := by decide +kernel
theorem dX0_write_89 : decode cX0_write 89 = .ok (.aload_n 0, 1) := by decide +kernel
theorem dX0_write_90 : decode cX0_write 90 = .ok (.getfield 24, 3) := by decide +kernel
theorem dX0_write_93 : decode cX0_write 93 = .ok (.iload 10, 2) := by decide +kernel
theorem dX0_write_95 : decode cX0_write 95 = .ok (.iaload, 1) := by decide +kernel
theorem dX0_write_96 : decode cX0_write 96 = .ok (.iastore, 1) := by decide +kernel
theorem dX0_write_97 : decode cX0_write 97 = .ok (.iload 10, 2) := by decide +kernel
theorem dX0_write_99 : decode cX0_write 99 = .ok (.istore 11, 2) := by decide +kernel
theorem dX0_write_101 : decode cX0_write 101 = .ok (.iload 11, 2) := by decide +kernel
theorem dX0_write_103 : decode cX0_write 103 = .ok (.iload 8, 2) := by decide +kernel
theorem dX0_write_105 : decode cX0_write 105 = .ok (.if_icmp .ge 25, 3) := by decide +kernel
theorem dX0_write_108 : decode cX0_write 108 = .ok (.aload_n 0, 1) := by decide +kernel
theorem dX0_write_109 : decode cX0_write 109 = .ok (.getfield 24, 3) := by decide +kernel
theorem dX0_write_112 : decode cX0_write 112 = .ok (.iload 11, 2) := by decide +kernel
theorem dX0_write_114 : decode cX0_write 114 = .ok (.aload_n 0, 1) := by decide +kernel
theorem dX0_write_115 : decode cX0_write 115 = .ok (.getfield 24, 3) := by decide +kernel
theorem dX0_write_118 : decode cX0_write 118 = .ok (.iload 11, 2) := by decide +kernel
theorem dX0_write_120 : decode cX0_write 120 = .ok (.iconst 1, 1) := by decide +kernel
theorem dX0_write_121 : decode cX0_write 121 = .ok (.iadd, 1) := by decide +kernel
theorem dX0_write_122 : decode cX0_write 122 = .ok (.iaload, 1) := by decide +kernel
theorem dX0_write_123 : decode cX0_write 123 = .ok (.iastore, 1) := by decide +kernel
theorem dX0_write_124 : decode cX0_write 124 = .ok (.iinc 11 1, 3) := by decide +kernel
theorem dX0_write_127 : decode cX0_write 127 = .ok (.goto (-26), 3) := by decide +kernel
theorem dX0_write_130 : decode cX0_write 130 = .ok (.iinc 7 1, 3) := by decide +kernel
theorem dX0_write_133 : decode cX0_write 133 = .ok (.goto (-106), 3) := by decide +kernel
theorem dX0_write_136 : decode cX0_write 136 = .ok (.aload_n 0, 1) := by decide +kernel
theorem dX0_write_137 : decode cX0_write 137 = .ok (.getfield 16, 3) := by decide +kernel
theorem dX0_write_140 : decode cX0_write 140 = .ok (.iload 4, 2) := by decide +kernel
theorem dX0_write_142 : decode cX0_write 142 = .ok (.iload 5, 2) := by decide +kernel
theorem dX0_write_144 : decode cX0_write 144 = .ok (.iastore, 1) := by decide +kernel
theorem dX0_write_145 : decode cX0_write 145 = .ok (.aload_n 0, 1) := by decide +kernel
theorem dX0_write_146 : decode cX0_write 146 = .ok (.getfield 20, 3) := by decide +kernel
theorem dX0_write_149 : decode cX0_write 149 = .ok (.iload 4, 2) := by decide +kernel
theorem dX0_write_151 : decode cX0_write 151 = .ok (.iconst 1, 1) := by decide +kernel
theorem dX0_write_152 : decode cX0_write 152 = .ok (.bastore, 1) := by decide +kernel
theorem dX0_write_153 : decode cX0_write 153 = .ok (.return_, 1) := by decide +kernel
theorem dX0_takeOut_0 : decode cX0_takeOut 0 = .ok (.iconst 0, 1) := by decide +kernel
theorem dX0_takeOut_1 : decode cX0_takeOut 1 = .ok (.istore_n 2, 1) := by decide +kernel
theorem dX0_takeOut_2 : decode cX0_takeOut 2 = .ok (.iload_n 2, 1) := by decide +kernel
theorem dX0_takeOut_3 : decode cX0_takeOut 3 = .ok (.bipush 40, 2) := by decide +kernel
theorem dX0_takeOut_5 : decode cX0_takeOut 5 = .ok (.if_icmp .ge 71, 3) := by decide +kernel
theorem dX0_takeOut_8 : decode cX0_takeOut 8 = .ok (.iconst 0, 1) := by decide +kernel
theorem dX0_takeOut_9 : decode cX0_takeOut 9 = .ok (.istore_n 3, 1) := by decide +kernel
theorem dX0_takeOut_10 : decode cX0_takeOut 10 = .ok (.iconst 0, 1) := by decide +kernel
theorem dX0_takeOut_11 : decode cX0_takeOut 11 = .ok (.istore 4, 2) := by decide +kernel
theorem dX0_takeOut_13 : decode cX0_takeOut 13 = .ok (.iload 4, 2) := by decide +kernel
theorem dX0_takeOut_15 : decode cX0_takeOut 15 = .ok (.aload_n 0, 1) := by decide +kernel
theorem dX0_takeOut_16 : decode cX0_takeOut 16 = .ok (.getfield 16, 3) := by decide +kernel
theorem dX0_takeOut_19 : decode cX0_takeOut 19 = .ok (.iload_n 2, 1) := by decide +kernel
theorem dX0_takeOut_20 : decode cX0_takeOut 20 = .ok (.iaload, 1) := by decide +kernel
theorem dX0_takeOut_21 : decode cX0_takeOut 21 = .ok (.if_icmp .ge 42, 3) := by decide +kernel
theorem dX0_takeOut_24 : decode cX0_takeOut 24 = .ok (.aload_n 0, 1) := by decide +kernel
theorem dX0_takeOut_25 : decode cX0_takeOut 25 = .ok (.getfield 11, 3) := by decide +kernel
theorem dX0_takeOut_28 : decode cX0_takeOut 28 = .ok (.iload_n 2, 1) := by decide +kernel
theorem dX0_takeOut_29 : decode cX0_takeOut 29 = .ok (.aaload, 1) := by decide +kernel
theorem dX0_takeOut_30 : decode cX0_takeOut 30 = .ok (.iload 4, 2) := by decide +kernel
theorem dX0_takeOut_32 : decode cX0_takeOut 32 = .ok (.iaload, 1) := by decide +kernel
theorem dX0_takeOut_33 : decode cX0_takeOut 33 = .ok (.iload_n 1, 1) := by decide +kernel
theorem dX0_takeOut_34 : decode cX0_takeOut 34 = .ok (.if_icmp .eq 23, 3) := by decide +kernel
theorem dX0_takeOut_37 : decode cX0_takeOut 37 = .ok (.aload_n 0, 1) := by decide +kernel
theorem dX0_takeOut_38 : decode cX0_takeOut 38 = .ok (.getfield 11, 3) := by decide +kernel
theorem dX0_takeOut_41 : decode cX0_takeOut 41 = .ok (.iload_n 2, 1) := by decide +kernel
theorem dX0_takeOut_42 : decode cX0_takeOut 42 = .ok (.aaload, 1) := by decide +kernel
theorem dX0_takeOut_43 : decode cX0_takeOut 43 = .ok (.iload_n 3, 1) := by decide +kernel
theorem dX0_takeOut_44 : decode cX0_takeOut 44 = .ok (.aload_n 0, 1) := by decide +kernel
theorem dX0_takeOut_45 : decode cX0_takeOut 45 = .ok (.getfield 11, 3) := by decide +kernel
theorem dX0_takeOut_48 : decode cX0_takeOut 48 = .ok (.iload_n 2, 1) := by decide +kernel
theorem dX0_takeOut_49 : decode cX0_takeOut 49 = .ok (.aaload, 1) := by decide +kernel
theorem dX0_takeOut_50 : decode cX0_takeOut 50 = .ok (.iload 4, 2) := by decide +kernel
theorem dX0_takeOut_52 : decode cX0_takeOut 52 = .ok (.iaload, 1) := by decide +kernel
theorem dX0_takeOut_53 : decode cX0_takeOut 53 = .ok (.iastore, 1) := by decide +kernel
theorem dX0_takeOut_54 : decode cX0_takeOut 54 = .ok (.iinc 3 1, 3) := by decide +kernel
theorem dX0_takeOut_57 : decode cX0_takeOut 57 = .ok (.iinc 4 1, 3) := by decide +kernel
theorem dX0_takeOut_60 : decode cX0_takeOut 60 = .ok (.goto (-47), 3) := by decide +kernel
theorem dX0_takeOut_63 : decode cX0_takeOut 63 = .ok (.aload_n 0, 1) := by decide +kernel
theorem dX0_takeOut_64 : decode cX0_takeOut 64 = .ok (.getfield 16, 3) := by decide +kernel
theorem dX0_takeOut_67 : decode cX0_takeOut 67 = .ok (.iload_n 2, 1) := by decide +kernel
theorem dX0_takeOut_68 : decode cX0_takeOut 68 = .ok (.iload_n 3, 1) := by decide +kernel
theorem dX0_takeOut_69 : decode cX0_takeOut 69 = .ok (.iastore, 1) := by decide +kernel
theorem dX0_takeOut_70 : decode cX0_takeOut 70 = .ok (.iinc 2 1, 3) := by decide +kernel
theorem dX0_takeOut_73 : decode cX0_takeOut 73 = .ok (.goto (-71), 3) := by decide +kernel
theorem dX0_takeOut_76 : decode cX0_takeOut 76 = .ok (.return_, 1) := by decide +kernel
theorem dX0_clear_0 : decode cX0_clear 0 = .ok (.iconst 0, 1) := by decide +kernel
theorem dX0_clear_1 : decode cX0_clear 1 = .ok (.istore_n 1, 1) := by decide +kernel
theorem dX0_clear_2 : decode cX0_clear 2 = .ok (.iload_n 1, 1) := by decide +kernel
theorem dX0_clear_3 : decode cX0_clear 3 = .ok (.bipush 40, 2) := by decide +kernel
theorem dX0_clear_5 : decode cX0_clear 5 = .ok (.if_icmp .ge 23, 3) := by decide +kernel
theorem dX0_clear_8 : decode cX0_clear 8 = .ok (.aload_n 0, 1) := by decide +kernel
theorem dX0_clear_9 : decode cX0_clear 9 = .ok (.getfield 20, 3) := by decide +kernel
theorem dX0_clear_12 : decode cX0_clear 12 = .ok (.iload_n 1, 1) := by decide +kernel
theorem dX0_clear_13 : decode cX0_clear 13 = .ok (.iconst 0, 1) := by decide +kernel
theorem dX0_clear_14 : decode cX0_clear 14 = .ok (.bastore, 1) := by decide +kernel
theorem dX0_clear_15 : decode cX0_clear 15 = .ok (.aload_n 0, 1) := by decide +kernel
theorem dX0_clear_16 : decode cX0_clear 16 = .ok (.getfield 16, 3) := by decide +kernel
theorem dX0_clear_19 : decode cX0_clear 19 = .ok (.iload_n 1, 1) := by decide +kernel
theorem dX0_clear_20 : decode cX0_clear 20 = .ok (.iconst 0, 1) := by decide +kernel
theorem dX0_clear_21 : decode cX0_clear 21 = .ok (.iastore, 1) := by decide +kernel
theorem dX0_clear_22 : decode cX0_clear 22 = .ok (.iinc 1 1, 3) := by decide +kernel
theorem dX0_clear_25 : decode cX0_clear 25 = .ok (.goto (-23), 3) := by decide +kernel
theorem dX0_clear_28 : decode cX0_clear 28 = .ok (.return_, 1) := by decide +kernel
theorem dX0_given_0 : decode cX0_given 0 = .ok (.iconst 0, 1) := by decide +kernel
theorem dX0_given_1 : decode cX0_given 1 = .ok (.istore_n 2, 1) := by decide +kernel
theorem dX0_given_2 : decode cX0_given 2 = .ok (.iconst 0, 1) := by decide +kernel
theorem dX0_given_3 : decode cX0_given 3 = .ok (.istore_n 3, 1) := by decide +kernel
theorem dX0_given_4 : decode cX0_given 4 = .ok (.iload_n 3, 1) := by decide +kernel
theorem dX0_given_5 : decode cX0_given 5 = .ok (.iconst 5, 1) := by decide +kernel
theorem dX0_given_6 : decode cX0_given 6 = .ok (.if_icmp .ge 30, 3) := by decide +kernel
theorem dX0_given_9 : decode cX0_given 9 = .ok (.iload_n 2, 1) := by decide +kernel
theorem dX0_given_10 : decode cX0_given 10 = .ok (.aload_n 0, 1) := by decide +kernel
theorem dX0_given_11 : decode cX0_given 11 = .ok (.getfield 20, 3) := by decide +kernel
theorem dX0_given_14 : decode cX0_given 14 = .ok (.iload_n 1, 1) := by decide +kernel
theorem dX0_given_15 : decode cX0_given 15 = .ok (.iload_n 3, 1) := by decide +kernel
theorem dX0_given_16 : decode cX0_given 16 = .ok (.invokestatic 31, 3) := by decide +kernel
theorem dX0_given_19 : decode cX0_given 19 = .ok (.baload, 1) := by decide +kernel
theorem dX0_given_20 : decode cX0_given 20 = .ok (.ifCond .eq 7, 3) := by decide +kernel
theorem dX0_given_23 : decode cX0_given 23 = .ok (.iconst 1, 1) := by decide +kernel
theorem dX0_given_24 : decode cX0_given 24 = .ok (.goto 4, 3) := by decide +kernel
theorem dX0_given_27 : decode cX0_given 27 = .ok (.iconst 0, 1) := by decide +kernel
theorem dX0_given_28 : decode cX0_given 28 = .ok (.iadd, 1) := by decide +kernel
theorem dX0_given_29 : decode cX0_given 29 = .ok (.istore_n 2, 1) := by decide +kernel
theorem dX0_given_30 : decode cX0_given 30 = .ok (.iinc 3 1, 3) := by decide +kernel
theorem dX0_given_33 : decode cX0_given 33 = .ok (.goto (-29), 3) := by decide +kernel
theorem dX0_given_36 : decode cX0_given 36 = .ok (.iload_n 2, 1) := by decide +kernel
theorem dX0_given_37 : decode cX0_given 37 = .ok (.ireturn, 1) := by decide +kernel
theorem dX0_firstOn_0 : decode cX0_firstOn 0 = .ok (.iload_n 1, 1) := by decide +kernel
theorem dX0_firstOn_1 : decode cX0_firstOn 1 = .ok (.iload_n 2, 1) := by decide +kernel
theorem dX0_firstOn_2 : decode cX0_firstOn 2 = .ok (.invokestatic 31, 3) := by decide +kernel
theorem dX0_firstOn_5 : decode cX0_firstOn 5 = .ok (.istore_n 3, 1) := by decide +kernel
theorem dX0_firstOn_6 : decode cX0_firstOn 6 = .ok (.aload_n 0, 1) := by decide +kernel
theorem dX0_firstOn_7 : decode cX0_firstOn 7 = .ok (.getfield 16, 3) := by decide +kernel
theorem dX0_firstOn_10 : decode cX0_firstOn 10 = .ok (.iload_n 3, 1) := by decide +kernel
theorem dX0_firstOn_11 : decode cX0_firstOn 11 = .ok (.iaload, 1) := by decide +kernel
theorem dX0_firstOn_12 : decode cX0_firstOn 12 = .ok (.ifCond .le 14, 3) := by decide +kernel
theorem dX0_firstOn_15 : decode cX0_firstOn 15 = .ok (.aload_n 0, 1) := by decide +kernel
theorem dX0_firstOn_16 : decode cX0_firstOn 16 = .ok (.getfield 11, 3) := by decide +kernel
theorem dX0_firstOn_19 : decode cX0_firstOn 19 = .ok (.iload_n 3, 1) := by decide +kernel
theorem dX0_firstOn_20 : decode cX0_firstOn 20 = .ok (.aaload, 1) := by decide +kernel
theorem dX0_firstOn_21 : decode cX0_firstOn 21 = .ok (.iconst 0, 1) := by decide +kernel
theorem dX0_firstOn_22 : decode cX0_firstOn 22 = .ok (.iaload, 1) := by decide +kernel
theorem dX0_firstOn_23 : decode cX0_firstOn 23 = .ok (.goto 4, 3) := by decide +kernel
theorem dX0_firstOn_26 : decode cX0_firstOn 26 = .ok (.iconst (-1), 1) := by decide +kernel
theorem dX0_firstOn_27 : decode cX0_firstOn 27 = .ok (.ireturn, 1) := by decide +kernel
theorem dX0_addWeights_0 : decode cX0_addWeights 0 = .ok (.iload_n 1, 1) := by decide +kernel
theorem dX0_addWeights_1 : decode cX0_addWeights 1 = .ok (.iload_n 2, 1) := by decide +kernel
theorem dX0_addWeights_2 : decode cX0_addWeights 2 = .ok (.invokestatic 31, 3) := by decide +kernel
theorem dX0_addWeights_5 : decode cX0_addWeights 5 = .ok (.istore 4, 2) := by decide +kernel
theorem dX0_addWeights_7 : decode cX0_addWeights 7 = .ok (.iconst 0, 1) := by decide +kernel
theorem dX0_addWeights_8 : decode cX0_addWeights 8 = .ok (.istore 5, 2) := by decide +kernel
theorem dX0_addWeights_10 : decode cX0_addWeights 10 = .ok (.iload 5, 2) := by decide +kernel
theorem dX0_addWeights_12 : decode cX0_addWeights 12 = .ok (.aload_n 0, 1) := by decide +kernel
theorem dX0_addWeights_13 : decode cX0_addWeights 13 = .ok (.getfield 16, 3) := by decide +kernel
theorem dX0_addWeights_16 : decode cX0_addWeights 16 = .ok (.iload 4, 2) := by decide +kernel
theorem dX0_addWeights_18 : decode cX0_addWeights 18 = .ok (.iaload, 1) := by decide +kernel
theorem dX0_addWeights_19 : decode cX0_addWeights 19 = .ok (.if_icmp .ge 29, 3) := by decide +kernel
theorem dX0_addWeights_22 : decode cX0_addWeights 22 = .ok (.aload_n 3, 1) := by decide +kernel
theorem dX0_addWeights_23 : decode cX0_addWeights 23 = .ok (.aload_n 0, 1) := by decide +kernel
theorem dX0_addWeights_24 : decode cX0_addWeights 24 = .ok (.getfield 11, 3) := by decide +kernel
theorem dX0_addWeights_27 : decode cX0_addWeights 27 = .ok (.iload 4, 2) := by decide +kernel
theorem dX0_addWeights_29 : decode cX0_addWeights 29 = .ok (.aaload, 1) := by decide +kernel
theorem dX0_addWeights_30 : decode cX0_addWeights 30 = .ok (.iload 5, 2) := by decide +kernel
theorem dX0_addWeights_32 : decode cX0_addWeights 32 = .ok (.iaload, 1) := by decide +kernel
theorem dX0_addWeights_33 : decode cX0_addWeights 33 = .ok (.dup2, 1) := by decide +kernel
theorem dX0_addWeights_34 : decode cX0_addWeights 34 = .ok (.iaload, 1) := by decide +kernel
theorem dX0_addWeights_35 : decode cX0_addWeights 35 = .ok (.iload 5, 2) := by decide +kernel
theorem dX0_addWeights_37 : decode cX0_addWeights 37 = .ok (.invokestatic 45, 3) := by decide +kernel
theorem dX0_addWeights_40 : decode cX0_addWeights 40 = .ok (.iadd, 1) := by decide +kernel
theorem dX0_addWeights_41 : decode cX0_addWeights 41 = .ok (.iastore, 1) := by decide +kernel
theorem dX0_addWeights_42 : decode cX0_addWeights 42 = .ok (.iinc 5 1, 3) := by decide +kernel
theorem dX0_addWeights_45 : decode cX0_addWeights 45 = .ok (.goto (-35), 3) := by decide +kernel
theorem dX0_addWeights_48 : decode cX0_addWeights 48 = .ok (.return_, 1) := by decide +kernel
theorem dX0_distance_0 : decode cX0_distance 0 = .ok (.iload_n 1, 1) := by decide +kernel
theorem dX0_distance_1 : decode cX0_distance 1 = .ok (.iload_n 2, 1) := by decide +kernel
theorem dX0_distance_2 : decode cX0_distance 2 = .ok (.invokestatic 31, 3) := by decide +kernel
theorem dX0_distance_5 : decode cX0_distance 5 = .ok (.istore 4, 2) := by decide +kernel
theorem dX0_distance_7 : decode cX0_distance 7 = .ok (.iconst 0, 1) := by decide +kernel
theorem dX0_distance_8 : decode cX0_distance 8 = .ok (.istore 5, 2) := by decide +kernel
theorem dX0_distance_10 : decode cX0_distance 10 = .ok (.iconst 0, 1) := by decide +kernel
theorem dX0_distance_11 : decode cX0_distance 11 = .ok (.istore 6, 2) := by decide +kernel
theorem dX0_distance_13 : decode cX0_distance 13 = .ok (.iload 6, 2) := by decide +kernel
theorem dX0_distance_15 : decode cX0_distance 15 = .ok (.aload_n 0, 1) := by decide +kernel
theorem dX0_distance_16 : decode cX0_distance 16 = .ok (.getfield 16, 3) := by decide +kernel
theorem dX0_distance_19 : decode cX0_distance 19 = .ok (.iload 4, 2) := by decide +kernel
theorem dX0_distance_21 : decode cX0_distance 21 = .ok (.iaload, 1) := by decide +kernel
theorem dX0_distance_22 : decode cX0_distance 22 = .ok (.if_icmp .ge 32, 3) := by decide +kernel
theorem dX0_distance_25 : decode cX0_distance 25 = .ok (.iload 5, 2) := by decide +kernel
theorem dX0_distance_27 : decode cX0_distance 27 = .ok (.iload 6, 2) := by decide +kernel
theorem dX0_distance_29 : decode cX0_distance 29 = .ok (.aload_n 3, 1) := by decide +kernel
theorem dX0_distance_30 : decode cX0_distance 30 = .ok (.aload_n 0, 1) := by decide +kernel
theorem dX0_distance_31 : decode cX0_distance 31 = .ok (.getfield 11, 3) := by decide +kernel
theorem dX0_distance_34 : decode cX0_distance 34 = .ok (.iload 4, 2) := by decide +kernel
theorem dX0_distance_36 : decode cX0_distance 36 = .ok (.aaload, 1) := by decide +kernel
theorem dX0_distance_37 : decode cX0_distance 37 = .ok (.iload 6, 2) := by decide +kernel
theorem dX0_distance_39 : decode cX0_distance 39 = .ok (.iaload, 1) := by decide +kernel
theorem dX0_distance_40 : decode cX0_distance 40 = .ok (.iaload, 1) := by decide +kernel
theorem dX0_distance_41 : decode cX0_distance 41 = .ok (.isub, 1) := by decide +kernel
theorem dX0_distance_42 : decode cX0_distance 42 = .ok (.invokestatic 48, 3) := by decide +kernel
theorem dX0_distance_45 : decode cX0_distance 45 = .ok (.iadd, 1) := by decide +kernel
theorem dX0_distance_46 : decode cX0_distance 46 = .ok (.istore 5, 2) := by decide +kernel
theorem dX0_distance_48 : decode cX0_distance 48 = .ok (.iinc 6 1, 3) := by decide +kernel
theorem dX0_distance_51 : decode cX0_distance 51 = .ok (.goto (-38), 3) := by decide +kernel
theorem dX0_distance_54 : decode cX0_distance 54 = .ok (.iload 5, 2) := by decide +kernel
theorem dX0_distance_56 : decode cX0_distance 56 = .ok (.ireturn, 1) := by decide +kernel
theorem dX1_init_0 : decode cX1_init 0 = .ok (.aload_n 0, 1) := by decide +kernel
theorem dX1_init_1 : decode cX1_init 1 = .ok (.invokespecial 3, 3) := by decide +kernel
theorem dX1_init_4 : decode cX1_init 4 = .ok (.aload_n 0, 1) := by decide +kernel
theorem dX1_init_5 : decode cX1_init 5 = .ok (.bipush 8, 2) := by decide +kernel
theorem dX1_init_7 : decode cX1_init 7 = .ok (.bipush 8, 2) := by decide +kernel
theorem dX1_init_9 : decode cX1_init 9 = .ok (.multianewarray 9 2, 4) := by decide +kernel
theorem dX1_init_13 : decode cX1_init 13 = .ok (.putfield 11, 3) := by decide +kernel
theorem dX1_init_16 : decode cX1_init 16 = .ok (.aload_n 0, 1) := by decide +kernel
theorem dX1_init_17 : decode cX1_init 17 = .ok (.bipush 8, 2) := by decide +kernel
theorem dX1_init_19 : decode cX1_init 19 = .ok (.newarray .int, 2) := by decide +kernel
theorem dX1_init_21 : decode cX1_init 21 = .ok (.putfield 16, 3) := by decide +kernel
theorem dX1_init_24 : decode cX1_init 24 = .ok (.aload_n 0, 1) := by decide +kernel
theorem dX1_init_25 : decode cX1_init 25 = .ok (.bipush 8, 2) := by decide +kernel
theorem dX1_init_27 : decode cX1_init 27 = .ok (.newarray .boolean, 2) := by decide +kernel
theorem dX1_init_29 : decode cX1_init 29 = .ok (.putfield 20, 3) := by decide +kernel
theorem dX1_init_32 : decode cX1_init 32 = .ok (.aload_n 0, 1) := by decide +kernel
theorem dX1_init_33 : decode cX1_init 33 = .ok (.bipush 8, 2) := by decide +kernel
theorem dX1_init_35 : decode cX1_init 35 = .ok (.newarray .boolean, 2) := by decide +kernel
theorem dX1_init_37 : decode cX1_init 37 = .ok (.putfield 24, 3) := by decide +kernel
theorem dX1_init_40 : decode cX1_init 40 = .ok (.aload_n 0, 1) := by decide +kernel
theorem dX1_init_41 : decode cX1_init 41 = .ok (.bipush 8, 2) := by decide +kernel
theorem dX1_init_43 : decode cX1_init 43 = .ok (.newarray .boolean, 2) := by decide +kernel
theorem dX1_init_45 : decode cX1_init 45 = .ok (.putfield 27, 3) := by decide +kernel
theorem dX1_init_48 : decode cX1_init 48 = .ok (.aload_n 0, 1) := by decide +kernel
theorem dX1_init_49 : decode cX1_init 49 = .ok (.iconst 0, 1) := by decide +kernel
theorem dX1_init_50 : decode cX1_init 50 = .ok (.putfield 30, 3) := by decide +kernel
theorem dX1_init_53 : decode cX1_init 53 = .ok (.aload_n 0, 1) := by decide +kernel
theorem dX1_init_54 : decode cX1_init 54 = .ok (.iconst 0, 1) := by decide +kernel
theorem dX1_init_55 : decode cX1_init 55 = .ok (.putfield 34, 3) := by decide +kernel
theorem dX1_init_58 : decode cX1_init 58 = .ok (.aload_n 0, 1) := by decide +kernel
theorem dX1_init_59 : decode cX1_init 59 = .ok (.aload_n 1, 1) := by decide +kernel
theorem dX1_init_60 : decode cX1_init 60 = .ok (.putfield 37, 3) := by decide +kernel
theorem dX1_init_63 : decode cX1_init 63 = .ok (.aload_n 0, 1) := by decide +kernel
theorem dX1_init_64 : decode cX1_init 64 = .ok (.aload_n 2, 1) := by decide +kernel
theorem dX1_init_65 : decode cX1_init 65 = .ok (.putfield 41, 3) := by decide +kernel
theorem dX1_init_68 : decode cX1_init 68 = .ok (.return_, 1) := by decide +kernel
theorem dX1_clear_0 : decode cX1_clear 0 = .ok (.iconst 0, 1) := by decide +kernel
theorem dX1_clear_1 : decode cX1_clear 1 = .ok (.istore_n 1, 1) := by decide +kernel
theorem dX1_clear_2 : decode cX1_clear 2 = .ok (.iload_n 1, 1) := by decide +kernel
theorem dX1_clear_3 : decode cX1_clear 3 = .ok (.bipush 8, 2) := by decide +kernel
theorem dX1_clear_5 : decode cX1_clear 5 = .ok (.if_icmp .ge 35, 3) := by decide +kernel
theorem dX1_clear_8 : decode cX1_clear 8 = .ok (.aload_n 0, 1) := by decide +kernel
theorem dX1_clear_9 : decode cX1_clear 9 = .ok (.iload_n 1, 1) := by decide +kernel
theorem dX1_clear_10 : decode cX1_clear 10 = .ok (.invokevirtual 45, 3) := by decide +kernel
theorem dX1_clear_13 : decode cX1_clear 13 = .ok (.aload_n 0, 1) := by decide +kernel
theorem dX1_clear_14 : decode cX1_clear 14 = .ok (.getfield 20, 3) := by decide +kernel
theorem dX1_clear_17 : decode cX1_clear 17 = .ok (.iload_n 1, 1) := by decide +kernel
theorem dX1_clear_18 : decode cX1_clear 18 = .ok (.iconst 0, 1) := by decide +kernel
theorem dX1_clear_19 : decode cX1_clear 19 = .ok (.bastore, 1) := by decide +kernel
theorem dX1_clear_20 : decode cX1_clear 20 = .ok (.aload_n 0, 1) := by decide +kernel
theorem dX1_clear_21 : decode cX1_clear 21 = .ok (.getfield 24, 3) := by decide +kernel
theorem dX1_clear_24 : decode cX1_clear 24 = .ok (.iload_n 1, 1) := by decide +kernel
theorem dX1_clear_25 : decode cX1_clear 25 = .ok (.iconst 0, 1) := by decide +kernel
theorem dX1_clear_26 : decode cX1_clear 26 = .ok (.bastore, 1) := by decide +kernel
theorem dX1_clear_27 : decode cX1_clear 27 = .ok (.aload_n 0, 1) := by decide +kernel
theorem dX1_clear_28 : decode cX1_clear 28 = .ok (.getfield 27, 3) := by decide +kernel
theorem dX1_clear_31 : decode cX1_clear 31 = .ok (.iload_n 1, 1) := by decide +kernel
theorem dX1_clear_32 : decode cX1_clear 32 = .ok (.iconst 0, 1) := by decide +kernel
theorem dX1_clear_33 : decode cX1_clear 33 = .ok (.bastore, 1) := by decide +kernel
theorem dX1_clear_34 : decode cX1_clear 34 = .ok (.iinc 1 1, 3) := by decide +kernel
theorem dX1_clear_37 : decode cX1_clear 37 = .ok (.goto (-35), 3) := by decide +kernel
theorem dX1_clear_40 : decode cX1_clear 40 = .ok (.aload_n 0, 1) := by decide +kernel
theorem dX1_clear_41 : decode cX1_clear 41 = .ok (.iconst 0, 1) := by decide +kernel
theorem dX1_clear_42 : decode cX1_clear 42 = .ok (.putfield 30, 3) := by decide +kernel
theorem dX1_clear_45 : decode cX1_clear 45 = .ok (.aload_n 0, 1) := by decide +kernel
theorem dX1_clear_46 : decode cX1_clear 46 = .ok (.iconst 0, 1) := by decide +kernel
theorem dX1_clear_47 : decode cX1_clear 47 = .ok (.putfield 34, 3) := by decide +kernel
theorem dX1_clear_50 : decode cX1_clear 50 = .ok (.return_, 1) := by decide +kernel
theorem dX1_wipe_0 : decode cX1_wipe 0 = .ok (.aload_n 0, 1) := by decide +kernel
theorem dX1_wipe_1 : decode cX1_wipe 1 = .ok (.getfield 16, 3) := by decide +kernel
theorem dX1_wipe_4 : decode cX1_wipe 4 = .ok (.iload_n 1, 1) := by decide +kernel
theorem dX1_wipe_5 : decode cX1_wipe 5 = .ok (.iconst 0, 1) := by decide +kernel
theorem dX1_wipe_6 : decode cX1_wipe 6 = .ok (.iastore, 1) := by decide +kernel
theorem dX1_wipe_7 : decode cX1_wipe 7 = .ok (.iconst 0, 1) := by decide +kernel
theorem dX1_wipe_8 : decode cX1_wipe 8 = .ok (.istore_n 2, 1) := by decide +kernel
theorem dX1_wipe_9 : decode cX1_wipe 9 = .ok (.iload_n 2, 1) := by decide +kernel
theorem dX1_wipe_10 : decode cX1_wipe 10 = .ok (.bipush 8, 2) := by decide +kernel
theorem dX1_wipe_12 : decode cX1_wipe 12 = .ok (.if_icmp .ge 18, 3) := by decide +kernel
theorem dX1_wipe_15 : decode cX1_wipe 15 = .ok (.aload_n 0, 1) := by decide +kernel
theorem dX1_wipe_16 : decode cX1_wipe 16 = .ok (.getfield 11, 3) := by decide +kernel
theorem dX1_wipe_19 : decode cX1_wipe 19 = .ok (.iload_n 2, 1) := by decide +kernel
theorem dX1_wipe_20 : decode cX1_wipe 20 = .ok (.aaload, 1) := by decide +kernel
theorem dX1_wipe_21 : decode cX1_wipe 21 = .ok (.iload_n 1, 1) := by decide +kernel
theorem dX1_wipe_22 : decode cX1_wipe 22 = .ok (.iconst 0, 1) := by decide +kernel
theorem dX1_wipe_23 : decode cX1_wipe 23 = .ok (.iastore, 1) := by decide +kernel
theorem dX1_wipe_24 : decode cX1_wipe 24 = .ok (.iinc 2 1, 3) := by decide +kernel
theorem dX1_wipe_27 : decode cX1_wipe 27 = .ok (.goto (-18), 3) := by decide +kernel
theorem dX1_wipe_30 : decode cX1_wipe 30 = .ok (.return_, 1) := by decide +kernel
theorem dX1_canRead_0 : decode cX1_canRead 0 = .ok (.aload_n 0, 1) := by decide +kernel
theorem dX1_canRead_1 : decode cX1_canRead 1 = .ok (.getfield 20, 3) := by decide +kernel
theorem dX1_canRead_4 : decode cX1_canRead 4 = .ok (.iload_n 1, 1) := by decide +kernel
theorem dX1_canRead_5 : decode cX1_canRead 5 = .ok (.baload, 1) := by decide +kernel
theorem dX1_canRead_6 : decode cX1_canRead 6 = .ok (.ifCond .ne 16, 3) := by decide +kernel
theorem dX1_canRead_9 : decode cX1_canRead 9 = .ok (.aload_n 0, 1) := by decide +kernel
theorem dX1_canRead_10 : decode cX1_canRead 10 = .ok (.getfield 24, 3) := by decide +kernel
theorem dX1_canRead_13 : decode cX1_canRead 13 = .ok (.iload_n 1, 1) := by decide +kernel
theorem dX1_canRead_14 : decode cX1_canRead 14 = .ok (.baload, 1) := by decide +kernel
theorem dX1_canRead_15 : decode cX1_canRead 15 = .ok (.ifCond .ne 7, 3) := by decide +kernel
theorem dX1_canRead_18 : decode cX1_canRead 18 = .ok (.iconst 1, 1) := by decide +kernel
theorem dX1_canRead_19 : decode cX1_canRead 19 = .ok (.goto 4, 3) := by decide +kernel
theorem dX1_canRead_22 : decode cX1_canRead 22 = .ok (.iconst 0, 1) := by decide +kernel
theorem dX1_canRead_23 : decode cX1_canRead 23 = .ok (.ireturn, 1) := by decide +kernel
theorem dX1_takeLand_0 : decode cX1_takeLand 0 = .ok (.aload_n 0, 1) := by decide +kernel
theorem dX1_takeLand_1 : decode cX1_takeLand 1 = .ok (.iload_n 1, 1) := by decide +kernel
theorem dX1_takeLand_2 : decode cX1_takeLand 2 = .ok (.aload_n 2, 1) := by decide +kernel
theorem dX1_takeLand_3 : decode cX1_takeLand 3 = .ok (.invokevirtual 58, 3) := by decide +kernel
theorem dX1_takeLand_6 : decode cX1_takeLand 6 = .ok (.pop, 1) := by decide +kernel
theorem dX1_takeLand_7 : decode cX1_takeLand 7 = .ok (.aload_n 0, 1) := by decide +kernel
theorem dX1_takeLand_8 : decode cX1_takeLand 8 = .ok (.getfield 20, 3) := by decide +kernel
theorem dX1_takeLand_11 : decode cX1_takeLand 11 = .ok (.iload_n 1, 1) := by decide +kernel
theorem dX1_takeLand_12 : decode cX1_takeLand 12 = .ok (.iconst 1, 1) := by decide +kernel
theorem dX1_takeLand_13 : decode cX1_takeLand 13 = .ok (.bastore, 1) := by decide +kernel
theorem dX1_takeLand_14 : decode cX1_takeLand 14 = .ok (.aload_n 0, 1) := by decide +kernel
theorem dX1_takeLand_15 : decode cX1_takeLand 15 = .ok (.dup, 1) := by decide +kernel
theorem dX1_takeLand_16 : decode cX1_takeLand 16 = .ok (.getfield 30, 3) := by decide +kernel
theorem dX1_takeLand_19 : decode cX1_takeLand 19 = .ok (.iconst 1, 1) := by decide +kernel
theorem dX1_takeLand_20 : decode cX1_takeLand 20 = .ok (.iadd, 1) := by decide +kernel
theorem dX1_takeLand_21 : decode cX1_takeLand 21 = .ok (.putfield 30, 3) := by decide +kernel
theorem dX1_takeLand_24 : decode cX1_takeLand 24 = .ok (.iconst 0, 1) := by decide +kernel
theorem dX1_takeLand_25 : decode cX1_takeLand 25 = .ok (.istore_n 3, 1) := by decide +kernel
theorem dX1_takeLand_26 : decode cX1_takeLand 26 = .ok (.iload_n 3, 1) := by decide +kernel
theorem dX1_takeLand_27 : decode cX1_takeLand 27 = .ok (.bipush 8, 2) := by decide +kernel
theorem dX1_takeLand_29 : decode cX1_takeLand 29 = .ok (.if_icmp .ge 16, 3) := by decide +kernel
theorem dX1_takeLand_32 : decode cX1_takeLand 32 = .ok (.aload_n 0, 1) := by decide +kernel
theorem dX1_takeLand_33 : decode cX1_takeLand 33 = .ok (.getfield 24, 3) := by decide +kernel
theorem dX1_takeLand_36 : decode cX1_takeLand 36 = .ok (.iload_n 3, 1) := by decide +kernel
theorem dX1_takeLand_37 : decode cX1_takeLand 37 = .ok (.iconst 0, 1) := by decide +kernel
theorem dX1_takeLand_38 : decode cX1_takeLand 38 = .ok (.bastore, 1) := by decide +kernel
theorem dX1_takeLand_39 : decode cX1_takeLand 39 = .ok (.iinc 3 1, 3) := by decide +kernel
theorem dX1_takeLand_42 : decode cX1_takeLand 42 = .ok (.goto (-16), 3) := by decide +kernel
theorem dX1_takeLand_45 : decode cX1_takeLand 45 = .ok (.return_, 1) := by decide +kernel
theorem dX1_put_0 : decode cX1_put 0 = .ok (.iconst 0, 1) := by decide +kernel
theorem dX1_put_1 : decode cX1_put 1 = .ok (.istore_n 3, 1) := by decide +kernel
theorem dX1_put_2 : decode cX1_put 2 = .ok (.iconst 0, 1) := by decide +kernel
theorem dX1_put_3 : decode cX1_put 3 = .ok (.istore 4, 2) := by decide +kernel
theorem dX1_put_5 : decode cX1_put 5 = .ok (.iload 4, 2) := by decide +kernel
theorem dX1_put_7 : decode cX1_put 7 = .ok (.bipush 8, 2) := by decide +kernel
theorem dX1_put_9 : decode cX1_put 9 = .ok (.if_icmp .ge 42, 3) := by decide +kernel
theorem dX1_put_12 : decode cX1_put 12 = .ok (.iload_n 3, 1) := by decide +kernel
theorem dX1_put_13 : decode cX1_put 13 = .ok (.aload_n 2, 1) := by decide +kernel
theorem dX1_put_14 : decode cX1_put 14 = .ok (.iload 4, 2) := by decide +kernel
theorem dX1_put_16 : decode cX1_put 16 = .ok (.iaload, 1) := by decide +kernel
theorem dX1_put_17 : decode cX1_put 17 = .ok (.aload_n 0, 1) := by decide +kernel
theorem dX1_put_18 : decode cX1_put 18 = .ok (.getfield 11, 3) := by decide +kernel
theorem dX1_put_21 : decode cX1_put 21 = .ok (.iload_n 1, 1) := by decide +kernel
theorem dX1_put_22 : decode cX1_put 22 = .ok (.aaload, 1) := by decide +kernel
theorem dX1_put_23 : decode cX1_put 23 = .ok (.iload 4, 2) := by decide +kernel
theorem dX1_put_25 : decode cX1_put 25 = .ok (.iaload, 1) := by decide +kernel
theorem dX1_put_26 : decode cX1_put 26 = .ok (.isub, 1) := by decide +kernel
theorem dX1_put_27 : decode cX1_put 27 = .ok (.invokestatic 62, 3) := by decide +kernel
theorem dX1_put_30 : decode cX1_put 30 = .ok (.iadd, 1) := by decide +kernel
theorem dX1_put_31 : decode cX1_put 31 = .ok (.istore_n 3, 1) := by decide +kernel
theorem dX1_put_32 : decode cX1_put 32 = .ok (.aload_n 0, 1) := by decide +kernel
theorem dX1_put_33 : decode cX1_put 33 = .ok (.getfield 11, 3) := by decide +kernel
theorem dX1_put_36 : decode cX1_put 36 = .ok (.iload_n 1, 1) := by decide +kernel
theorem dX1_put_37 : decode cX1_put 37 = .ok (.aaload, 1) := by decide +kernel
theorem dX1_put_38 : decode cX1_put 38 = .ok (.iload 4, 2) := by decide +kernel
theorem dX1_put_40 : decode cX1_put 40 = .ok (.aload_n 2, 1) := by decide +kernel
theorem dX1_put_41 : decode cX1_put 41 = .ok (.iload 4, 2) := by decide +kernel
theorem dX1_put_43 : decode cX1_put 43 = .ok (.iaload, 1) := by decide +kernel
theorem dX1_put_44 : decode cX1_put 44 = .ok (.iastore, 1) := by decide +kernel
theorem dX1_put_45 : decode cX1_put 45 = .ok (.iinc 4 1, 3) := by decide +kernel
theorem dX1_put_48 : decode cX1_put 48 = .ok (.goto (-43), 3) := by decide +kernel
theorem dX1_put_51 : decode cX1_put 51 = .ok (.iload_n 3, 1) := by decide +kernel
theorem dX1_put_52 : decode cX1_put 52 = .ok (.ireturn, 1) := by decide +kernel
theorem dX1_takeCalls_0 : decode cX1_takeCalls 0 = .ok (.aload_n 0, 1) := by decide +kernel
theorem dX1_takeCalls_1 : decode cX1_takeCalls 1 = .ok (.getfield 16, 3) := by decide +kernel
theorem dX1_takeCalls_4 : decode cX1_takeCalls 4 = .ok (.iload_n 1, 1) := by decide +kernel
theorem dX1_takeCalls_5 : decode cX1_takeCalls 5 = .ok (.iload_n 2, 1) := by decide +kernel
theorem dX1_takeCalls_6 : decode cX1_takeCalls 6 = .ok (.iastore, 1) := by decide +kernel
theorem dX1_takeCalls_7 : decode cX1_takeCalls 7 = .ok (.aload_n 0, 1) := by decide +kernel
theorem dX1_takeCalls_8 : decode cX1_takeCalls 8 = .ok (.getfield 27, 3) := by decide +kernel
theorem dX1_takeCalls_11 : decode cX1_takeCalls 11 = .ok (.iload_n 1, 1) := by decide +kernel
theorem dX1_takeCalls_12 : decode cX1_takeCalls 12 = .ok (.iconst 1, 1) := by decide +kernel
theorem dX1_takeCalls_13 : decode cX1_takeCalls 13 = .ok (.bastore, 1) := by decide +kernel
theorem dX1_takeCalls_14 : decode cX1_takeCalls 14 = .ok (.aload_n 0, 1) := by decide +kernel
theorem dX1_takeCalls_15 : decode cX1_takeCalls 15 = .ok (.dup, 1) := by decide +kernel
theorem dX1_takeCalls_16 : decode cX1_takeCalls 16 = .ok (.getfield 34, 3) := by decide +kernel
theorem dX1_takeCalls_19 : decode cX1_takeCalls 19 = .ok (.iconst 1, 1) := by decide +kernel
theorem dX1_takeCalls_20 : decode cX1_takeCalls 20 = .ok (.iadd, 1) := by decide +kernel
theorem dX1_takeCalls_21 : decode cX1_takeCalls 21 = .ok (.putfield 34, 3) := by decide +kernel
theorem dX1_takeCalls_24 : decode cX1_takeCalls 24 = .ok (.return_, 1) := by decide +kernel
theorem dX1_juryOf_0 : decode cX1_juryOf 0 = .ok (.iconst 0, 1) := by decide +kernel
theorem dX1_juryOf_1 : decode cX1_juryOf 1 = .ok (.istore_n 2, 1) := by decide +kernel
theorem dX1_juryOf_2 : decode cX1_juryOf 2 = .ok (.iconst 0, 1) := by decide +kernel
theorem dX1_juryOf_3 : decode cX1_juryOf 3 = .ok (.istore_n 3, 1) := by decide +kernel
theorem dX1_juryOf_4 : decode cX1_juryOf 4 = .ok (.iload_n 3, 1) := by decide +kernel
theorem dX1_juryOf_5 : decode cX1_juryOf 5 = .ok (.bipush 8, 2) := by decide +kernel
theorem dX1_juryOf_7 : decode cX1_juryOf 7 = .ok (.if_icmp .ge 20, 3) := by decide +kernel
theorem dX1_juryOf_10 : decode cX1_juryOf 10 = .ok (.iload_n 2, 1) := by decide +kernel
theorem dX1_juryOf_11 : decode cX1_juryOf 11 = .ok (.aload_n 0, 1) := by decide +kernel
theorem dX1_juryOf_12 : decode cX1_juryOf 12 = .ok (.getfield 11, 3) := by decide +kernel
theorem dX1_juryOf_15 : decode cX1_juryOf 15 = .ok (.iload_n 3, 1) := by decide +kernel
theorem dX1_juryOf_16 : decode cX1_juryOf 16 = .ok (.aaload, 1) := by decide +kernel
theorem dX1_juryOf_17 : decode cX1_juryOf 17 = .ok (.iload_n 1, 1) := by decide +kernel
theorem dX1_juryOf_18 : decode cX1_juryOf 18 = .ok (.iaload, 1) := by decide +kernel
theorem dX1_juryOf_19 : decode cX1_juryOf 19 = .ok (.iadd, 1) := by decide +kernel
theorem dX1_juryOf_20 : decode cX1_juryOf 20 = .ok (.istore_n 2, 1) := by decide +kernel
theorem dX1_juryOf_21 : decode cX1_juryOf 21 = .ok (.iinc 3 1, 3) := by decide +kernel
theorem dX1_juryOf_24 : decode cX1_juryOf 24 = .ok (.goto (-20), 3) := by decide +kernel
theorem dX1_juryOf_27 : decode cX1_juryOf 27 = .ok (.iload_n 2, 1) := by decide +kernel
theorem dX1_juryOf_28 : decode cX1_juryOf 28 = .ok (.ireturn, 1) := by decide +kernel
theorem dX1_nextSong_0 : decode cX1_nextSong 0 = .ok (.iconst (-1), 1) := by decide +kernel
theorem dX1_nextSong_1 : decode cX1_nextSong 1 = .ok (.istore_n 1, 1) := by decide +kernel
theorem dX1_nextSong_2 : decode cX1_nextSong 2 = .ok (.iconst 0, 1) := by decide +kernel
theorem dX1_nextSong_3 : decode cX1_nextSong 3 = .ok (.istore_n 2, 1) := by decide +kernel
theorem dX1_nextSong_4 : decode cX1_nextSong 4 = .ok (.iconst 0, 1) := by decide +kernel
theorem dX1_nextSong_5 : decode cX1_nextSong 5 = .ok (.istore_n 3, 1) := by decide +kernel
theorem dX1_nextSong_6 : decode cX1_nextSong 6 = .ok (.iload_n 3, 1) := by decide +kernel
theorem dX1_nextSong_7 : decode cX1_nextSong 7 = .ok (.bipush 8, 2) := by decide +kernel
theorem dX1_nextSong_9 : decode cX1_nextSong 9 = .ok (.if_icmp .ge 52, 3) := by decide +kernel
theorem dX1_nextSong_12 : decode cX1_nextSong 12 = .ok (.aload_n 0, 1) := by decide +kernel
theorem dX1_nextSong_13 : decode cX1_nextSong 13 = .ok (.getfield 41, 3) := by decide +kernel
theorem dX1_nextSong_16 : decode cX1_nextSong 16 = .ok (.iload_n 3, 1) := by decide +kernel
theorem dX1_nextSong_17 : decode cX1_nextSong 17 = .ok (.invokevirtual 68, 3) := by decide +kernel
theorem dX1_nextSong_20 : decode cX1_nextSong 20 = .ok (.ifCond .eq 35, 3) := by decide +kernel
theorem dX1_nextSong_23 : decode cX1_nextSong 23 = .ok (.aload_n 0, 1) := by decide +kernel
theorem dX1_nextSong_24 : decode cX1_nextSong 24 = .ok (.getfield 27, 3) := by decide +kernel
theorem dX1_nextSong_27 : decode cX1_nextSong 27 = .ok (.iload_n 3, 1) := by decide +kernel
theorem dX1_nextSong_28 : decode cX1_nextSong 28 = .ok (.baload, 1) := by decide +kernel
theorem dX1_nextSong_29 : decode cX1_nextSong 29 = .ok (.ifCond .ne 26, 3) := by decide +kernel
theorem dX1_nextSong_32 : decode cX1_nextSong 32 = .ok (.aload_n 0, 1) := by decide +kernel
theorem dX1_nextSong_33 : decode cX1_nextSong 33 = .ok (.iload_n 3, 1) := by decide +kernel
theorem dX1_nextSong_34 : decode cX1_nextSong 34 = .ok (.invokevirtual 73, 3) := by decide +kernel
theorem dX1_nextSong_37 : decode cX1_nextSong 37 = .ok (.istore 4, 2) := by decide +kernel
theorem dX1_nextSong_39 : decode cX1_nextSong 39 = .ok (.iload_n 1, 1) := by decide +kernel
theorem dX1_nextSong_40 : decode cX1_nextSong 40 = .ok (.iconst (-1), 1) := by decide +kernel
theorem dX1_nextSong_41 : decode cX1_nextSong 41 = .ok (.if_icmp .eq 9, 3) := by decide +kernel
theorem dX1_nextSong_44 : decode cX1_nextSong 44 = .ok (.iload 4, 2) := by decide +kernel
theorem dX1_nextSong_46 : decode cX1_nextSong 46 = .ok (.iload_n 2, 1) := by decide +kernel
theorem dX1_nextSong_47 : decode cX1_nextSong 47 = .ok (.if_icmp .gt 8, 3) := by decide +kernel
theorem dX1_nextSong_50 : decode cX1_nextSong 50 = .ok (.iload_n 3, 1) := by decide +kernel
theorem dX1_nextSong_51 : decode cX1_nextSong 51 = .ok (.istore_n 1, 1) := by decide +kernel
theorem dX1_nextSong_52 : decode cX1_nextSong 52 = .ok (.iload 4, 2) := by decide +kernel
theorem dX1_nextSong_54 : decode cX1_nextSong 54 = .ok (.istore_n 2, 1) := by decide +kernel
theorem dX1_nextSong_55 : decode cX1_nextSong 55 = .ok (.iinc 3 1, 3) := by decide +kernel
theorem dX1_nextSong_58 : decode cX1_nextSong 58 = .ok (.goto (-52), 3) := by decide +kernel
theorem dX1_nextSong_61 : decode cX1_nextSong 61 = .ok (.iload_n 1, 1) := by decide +kernel
theorem dX1_nextSong_62 : decode cX1_nextSong 62 = .ok (.ireturn, 1) := by decide +kernel
theorem dX1_hopefuls_0 : decode cX1_hopefuls 0 = .ok (.iconst 0, 1) := by decide +kernel
theorem dX1_hopefuls_1 : decode cX1_hopefuls 1 = .ok (.istore_n 1, 1) := by decide +kernel
theorem dX1_hopefuls_2 : decode cX1_hopefuls 2 = .ok (.iconst 0, 1) := by decide +kernel
theorem dX1_hopefuls_3 : decode cX1_hopefuls 3 = .ok (.istore_n 2, 1) := by decide +kernel
theorem dX1_hopefuls_4 : decode cX1_hopefuls 4 = .ok (.iload_n 2, 1) := by decide +kernel
theorem dX1_hopefuls_5 : decode cX1_hopefuls 5 = .ok (.bipush 8, 2) := by decide +kernel
theorem dX1_hopefuls_7 : decode cX1_hopefuls 7 = .ok (.if_icmp .ge 34, 3) := by decide +kernel
theorem dX1_hopefuls_10 : decode cX1_hopefuls 10 = .ok (.aload_n 0, 1) := by decide +kernel
theorem dX1_hopefuls_11 : decode cX1_hopefuls 11 = .ok (.getfield 41, 3) := by decide +kernel
theorem dX1_hopefuls_14 : decode cX1_hopefuls 14 = .ok (.iload_n 2, 1) := by decide +kernel
theorem dX1_hopefuls_15 : decode cX1_hopefuls 15 = .ok (.invokevirtual 68, 3) := by decide +kernel
theorem dX1_hopefuls_18 : decode cX1_hopefuls 18 = .ok (.ifCond .eq 15, 3) := by decide +kernel
theorem dX1_hopefuls_21 : decode cX1_hopefuls 21 = .ok (.iload_n 1, 1) := by decide +kernel
theorem dX1_hopefuls_22 : decode cX1_hopefuls 22 = .ok (.aload_n 0, 1) := by decide +kernel
theorem dX1_hopefuls_23 : decode cX1_hopefuls 23 = .ok (.iload_n 2, 1) := by decide +kernel
theorem dX1_hopefuls_24 : decode cX1_hopefuls 24 = .ok (.invokevirtual 73, 3) := by decide +kernel
theorem dX1_hopefuls_27 : decode cX1_hopefuls 27 = .ok (.invokestatic 76, 3) := by decide +kernel
theorem dX1_hopefuls_30 : decode cX1_hopefuls 30 = .ok (.goto 4, 3) := by decide +kernel
theorem dX1_hopefuls_33 : decode cX1_hopefuls 33 = .ok (.iload_n 1, 1) := by decide +kernel
theorem dX1_hopefuls_34 : decode cX1_hopefuls 34 = .ok (.istore_n 1, 1) := by decide +kernel
theorem dX1_hopefuls_35 : decode cX1_hopefuls 35 = .ok (.iinc 2 1, 3) := by decide +kernel
theorem dX1_hopefuls_38 : decode cX1_hopefuls 38 = .ok (.goto (-34), 3) := by decide +kernel
theorem dX1_hopefuls_41 : decode cX1_hopefuls 41 = .ok (.iconst 0, 1) := by decide +kernel
theorem dX1_hopefuls_42 : decode cX1_hopefuls 42 = .ok (.istore_n 2, 1) := by decide +kernel
theorem dX1_hopefuls_43 : decode cX1_hopefuls 43 = .ok (.iconst 0, 1) := by decide +kernel
theorem dX1_hopefuls_44 : decode cX1_hopefuls 44 = .ok (.istore_n 3, 1) := by decide +kernel
theorem dX1_hopefuls_45 : decode cX1_hopefuls 45 = .ok (.iload_n 3, 1) := by decide +kernel
theorem dX1_hopefuls_46 : decode cX1_hopefuls 46 = .ok (.bipush 8, 2) := by decide +kernel
theorem dX1_hopefuls_48 : decode cX1_hopefuls 48 = .ok (.if_icmp .ge 55, 3) := by decide +kernel
theorem dX1_hopefuls_51 : decode cX1_hopefuls 51 = .ok (.aload_n 0, 1) := by decide +kernel
theorem dX1_hopefuls_52 : decode cX1_hopefuls 52 = .ok (.getfield 41, 3) := by decide +kernel
theorem dX1_hopefuls_55 : decode cX1_hopefuls 55 = .ok (.iload_n 3, 1) := by decide +kernel
theorem dX1_hopefuls_56 : decode cX1_hopefuls 56 = .ok (.invokevirtual 68, 3) := by decide +kernel
theorem dX1_hopefuls_59 : decode cX1_hopefuls 59 = .ok (.ifCond .eq 22, 3) := by decide +kernel
theorem dX1_hopefuls_62 : decode cX1_hopefuls 62 = .ok (.aload_n 0, 1) := by decide +kernel
theorem dX1_hopefuls_63 : decode cX1_hopefuls 63 = .ok (.iload_n 3, 1) := by decide +kernel
theorem dX1_hopefuls_64 : decode cX1_hopefuls 64 = .ok (.invokevirtual 73, 3) := by decide +kernel
theorem dX1_hopefuls_67 : decode cX1_hopefuls 67 = .ok (.aload_n 0, 1) := by decide +kernel
theorem dX1_hopefuls_68 : decode cX1_hopefuls 68 = .ok (.iload_n 3, 1) := by decide +kernel
theorem dX1_hopefuls_69 : decode cX1_hopefuls 69 = .ok (.invokevirtual 80, 3) := by decide +kernel
theorem dX1_hopefuls_72 : decode cX1_hopefuls 72 = .ok (.iadd, 1) := by decide +kernel
theorem dX1_hopefuls_73 : decode cX1_hopefuls 73 = .ok (.iload_n 1, 1) := by decide +kernel
theorem dX1_hopefuls_74 : decode cX1_hopefuls 74 = .ok (.if_icmp .lt 7, 3) := by decide +kernel
theorem dX1_hopefuls_77 : decode cX1_hopefuls 77 = .ok (.iconst 1, 1) := by decide +kernel
theorem dX1_hopefuls_78 : decode cX1_hopefuls 78 = .ok (.goto 4, 3) := by decide +kernel
theorem dX1_hopefuls_81 : decode cX1_hopefuls 81 = .ok (.iconst 0, 1) := by decide +kernel
theorem dX1_hopefuls_82 : decode cX1_hopefuls 82 = .ok (.istore 4, 2) := by decide +kernel
theorem dX1_hopefuls_84 : decode cX1_hopefuls 84 = .ok (.iload_n 2, 1) := by decide +kernel
theorem dX1_hopefuls_85 : decode cX1_hopefuls 85 = .ok (.iload 4, 2) := by decide +kernel
theorem dX1_hopefuls_87 : decode cX1_hopefuls 87 = .ok (.ifCond .eq 7, 3) := by decide +kernel
theorem dX1_hopefuls_90 : decode cX1_hopefuls 90 = .ok (.iconst 1, 1) := by decide +kernel
theorem dX1_hopefuls_91 : decode cX1_hopefuls 91 = .ok (.goto 4, 3) := by decide +kernel
theorem dX1_hopefuls_94 : decode cX1_hopefuls 94 = .ok (.iconst 0, 1) := by decide +kernel
theorem dX1_hopefuls_95 : decode cX1_hopefuls 95 = .ok (.iadd, 1) := by decide +kernel
theorem dX1_hopefuls_96 : decode cX1_hopefuls 96 = .ok (.istore_n 2, 1) := by decide +kernel
theorem dX1_hopefuls_97 : decode cX1_hopefuls 97 = .ok (.iinc 3 1, 3) := by decide +kernel
theorem dX1_hopefuls_100 : decode cX1_hopefuls 100 = .ok (.goto (-55), 3) := by decide +kernel
theorem dX1_hopefuls_103 : decode cX1_hopefuls 103 = .ok (.iload_n 2, 1) := by decide +kernel
theorem dX1_hopefuls_104 : decode cX1_hopefuls 104 = .ok (.ireturn, 1) := by decide +kernel
theorem dX1_stillToCome_0 : decode cX1_stillToCome 0 = .ok (.iconst 0, 1) := by decide +kernel
theorem dX1_stillToCome_1 : decode cX1_stillToCome 1 = .ok (.istore_n 2, 1) := by decide +kernel
theorem dX1_stillToCome_2 : decode cX1_stillToCome 2 = .ok (.iconst 0, 1) := by decide +kernel
theorem dX1_stillToCome_3 : decode cX1_stillToCome 3 = .ok (.istore_n 3, 1) := by decide +kernel
theorem dX1_stillToCome_4 : decode cX1_stillToCome 4 = .ok (.iload_n 3, 1) := by decide +kernel
theorem dX1_stillToCome_5 : decode cX1_stillToCome 5 = .ok (.aload_n 0, 1) := by decide +kernel
theorem dX1_stillToCome_6 : decode cX1_stillToCome 6 = .ok (.getfield 37, 3) := by decide +kernel
theorem dX1_stillToCome_9 : decode cX1_stillToCome 9 = .ok (.getfield 49, 3) := by decide +kernel
theorem dX1_stillToCome_12 : decode cX1_stillToCome 12 = .ok (.if_icmp .ge 32, 3) := by decide +kernel
theorem dX1_stillToCome_15 : decode cX1_stillToCome 15 = .ok (.iload_n 2, 1) := by decide +kernel
theorem dX1_stillToCome_16 : decode cX1_stillToCome 16 = .ok (.iload_n 3, 1) := by decide +kernel
theorem dX1_stillToCome_17 : decode cX1_stillToCome 17 = .ok (.iload_n 1, 1) := by decide +kernel
theorem dX1_stillToCome_18 : decode cX1_stillToCome 18 = .ok (.if_icmp .eq 17, 3) := by decide +kernel
theorem dX1_stillToCome_21 : decode cX1_stillToCome 21 = .ok (.aload_n 0, 1) := by decide +kernel
theorem dX1_stillToCome_22 : decode cX1_stillToCome 22 = .ok (.getfield 20, 3) := by decide +kernel
theorem dX1_stillToCome_25 : decode cX1_stillToCome 25 = .ok (.iload_n 3, 1) := by decide +kernel
theorem dX1_stillToCome_26 : decode cX1_stillToCome 26 = .ok (.baload, 1) := by decide +kernel
theorem dX1_stillToCome_27 : decode cX1_stillToCome 27 = .ok (.ifCond .ne 8, 3) := by decide +kernel
theorem dX1_stillToCome_30 : decode cX1_stillToCome 30 = .ok (.bipush 12, 2) := by decide +kernel
theorem dX1_stillToCome_32 : decode cX1_stillToCome 32 = .ok (.goto 4, 3) := by decide +kernel
theorem dX1_stillToCome_35 : decode cX1_stillToCome 35 = .ok (.iconst 0, 1) := by decide +kernel
theorem dX1_stillToCome_36 : decode cX1_stillToCome 36 = .ok (.iadd, 1) := by decide +kernel
theorem dX1_stillToCome_37 : decode cX1_stillToCome 37 = .ok (.istore_n 2, 1) := by decide +kernel
theorem dX1_stillToCome_38 : decode cX1_stillToCome 38 = .ok (.iinc 3 1, 3) := by decide +kernel
theorem dX1_stillToCome_41 : decode cX1_stillToCome 41 = .ok (.goto (-37), 3) := by decide +kernel
theorem dX1_stillToCome_44 : decode cX1_stillToCome 44 = .ok (.iload_n 2, 1) := by decide +kernel
theorem dX1_stillToCome_45 : decode cX1_stillToCome 45 = .ok (.ireturn, 1) := by decide +kernel
theorem dX1_leadWith_0 : decode cX1_leadWith 0 = .ok (.iconst 0, 1) := by decide +kernel
theorem dX1_leadWith_1 : decode cX1_leadWith 1 = .ok (.istore_n 2, 1) := by decide +kernel
theorem dX1_leadWith_2 : decode cX1_leadWith 2 = .ok (.iconst 0, 1) := by decide +kernel
theorem dX1_leadWith_3 : decode cX1_leadWith 3 = .ok (.istore_n 3, 1) := by decide +kernel
theorem dX1_leadWith_4 : decode cX1_leadWith 4 = .ok (.iconst 0, 1) := by decide +kernel
theorem dX1_leadWith_5 : decode cX1_leadWith 5 = .ok (.istore 4, 2) := by decide +kernel
theorem dX1_leadWith_7 : decode cX1_leadWith 7 = .ok (.iload 4, 2) := by decide +kernel
theorem dX1_leadWith_9 : decode cX1_leadWith 9 = .ok (.bipush 8, 2) := by decide +kernel
theorem dX1_leadWith_11 : decode cX1_leadWith 11 = .ok (.if_icmp .ge 69, 3) := by decide +kernel
theorem dX1_leadWith_14 : decode cX1_leadWith 14 = .ok (.aload_n 0, 1) := by decide +kernel
theorem dX1_leadWith_15 : decode cX1_leadWith 15 = .ok (.getfield 41, 3) := by decide +kernel
theorem dX1_leadWith_18 : decode cX1_leadWith 18 = .ok (.iload 4, 2) := by decide +kernel
theorem dX1_leadWith_20 : decode cX1_leadWith 20 = .ok (.invokevirtual 68, 3) := by decide +kernel
theorem dX1_leadWith_23 : decode cX1_leadWith 23 = .ok (.ifCond .eq 25, 3) := by decide +kernel
theorem dX1_leadWith_26 : decode cX1_leadWith 26 = .ok (.aload_n 0, 1) := by decide +kernel
theorem dX1_leadWith_27 : decode cX1_leadWith 27 = .ok (.iload 4, 2) := by decide +kernel
theorem dX1_leadWith_29 : decode cX1_leadWith 29 = .ok (.invokevirtual 73, 3) := by decide +kernel
theorem dX1_leadWith_32 : decode cX1_leadWith 32 = .ok (.aload_n 0, 1) := by decide +kernel
theorem dX1_leadWith_33 : decode cX1_leadWith 33 = .ok (.getfield 16, 3) := by decide +kernel
theorem dX1_leadWith_36 : decode cX1_leadWith 36 = .ok (.iload 4, 2) := by decide +kernel
theorem dX1_leadWith_38 : decode cX1_leadWith 38 = .ok (.iaload, 1) := by decide +kernel
theorem dX1_leadWith_39 : decode cX1_leadWith 39 = .ok (.iadd, 1) := by decide +kernel
theorem dX1_leadWith_40 : decode cX1_leadWith 40 = .ok (.aload_n 1, 1) := by decide +kernel
theorem dX1_leadWith_41 : decode cX1_leadWith 41 = .ok (.iload 4, 2) := by decide +kernel
theorem dX1_leadWith_43 : decode cX1_leadWith 43 = .ok (.iaload, 1) := by decide +kernel
theorem dX1_leadWith_44 : decode cX1_leadWith 44 = .ok (.iadd, 1) := by decide +kernel
theorem dX1_leadWith_45 : decode cX1_leadWith 45 = .ok (.goto 4, 3) := by decide +kernel
theorem dX1_leadWith_48 : decode cX1_leadWith 48 = .ok (.iconst 0, 1) := by decide +kernel
theorem dX1_leadWith_49 : decode cX1_leadWith 49 = .ok (.istore 5, 2) := by decide +kernel
theorem dX1_leadWith_51 : decode cX1_leadWith 51 = .ok (.iload 5, 2) := by decide +kernel
theorem dX1_leadWith_53 : decode cX1_leadWith 53 = .ok (.iload_n 2, 1) := by decide +kernel
theorem dX1_leadWith_54 : decode cX1_leadWith 54 = .ok (.if_icmp .le 11, 3) := by decide +kernel
theorem dX1_leadWith_57 : decode cX1_leadWith 57 = .ok (.iload_n 2, 1) := by decide +kernel
theorem dX1_leadWith_58 : decode cX1_leadWith 58 = .ok (.istore_n 3, 1) := by decide +kernel
theorem dX1_leadWith_59 : decode cX1_leadWith 59 = .ok (.iload 5, 2) := by decide +kernel
theorem dX1_leadWith_61 : decode cX1_leadWith 61 = .ok (.istore_n 2, 1) := by decide +kernel
theorem dX1_leadWith_62 : decode cX1_leadWith 62 = .ok (.goto 12, 3) := by decide +kernel
theorem dX1_leadWith_65 : decode cX1_leadWith 65 = .ok (.iload 5, 2) := by decide +kernel
theorem dX1_leadWith_67 : decode cX1_leadWith 67 = .ok (.iload_n 3, 1) := by decide +kernel
theorem dX1_leadWith_68 : decode cX1_leadWith 68 = .ok (.if_icmp .le 6, 3) := by decide +kernel
theorem dX1_leadWith_71 : decode cX1_leadWith 71 = .ok (.iload 5, 2) := by decide +kernel
theorem dX1_leadWith_73 : decode cX1_leadWith 73 = .ok (.istore_n 3, 1) := by decide +kernel
theorem dX1_leadWith_74 : decode cX1_leadWith 74 = .ok (.iinc 4 1, 3) := by decide +kernel
theorem dX1_leadWith_77 : decode cX1_leadWith 77 = .ok (.goto (-70), 3) := by decide +kernel
theorem dX1_leadWith_80 : decode cX1_leadWith 80 = .ok (.iload_n 2, 1) := by decide +kernel
theorem dX1_leadWith_81 : decode cX1_leadWith 81 = .ok (.iload_n 3, 1) := by decide +kernel
theorem dX1_leadWith_82 : decode cX1_leadWith 82 = .ok (.isub, 1) := by decide +kernel
theorem dX1_leadWith_83 : decode cX1_leadWith 83 = .ok (.ireturn, 1) := by decide +kernel
theorem dX2_init_0 : decode cX2_init 0 = .ok (.aload_n 0, 1) := by decide +kernel
theorem dX2_init_1 : decode cX2_init 1 = .ok (.invokespecial 3, 3) := by decide +kernel
theorem dX2_init_4 : decode cX2_init 4 = .ok (.aload_n 0, 1) := by decide +kernel
theorem dX2_init_5 : decode cX2_init 5 = .ok (.bipush 8, 2) := by decide +kernel
theorem dX2_init_7 : decode cX2_init 7 = .ok (.bipush 8, 2) := by decide +kernel
theorem dX2_init_9 : decode cX2_init 9 = .ok (.multianewarray 9 2, 4) := by decide +kernel
theorem dX2_init_13 : decode cX2_init 13 = .ok (.putfield 11, 3) := by decide +kernel
theorem dX2_init_16 : decode cX2_init 16 = .ok (.aload_n 0, 1) := by decide +kernel
theorem dX2_init_17 : decode cX2_init 17 = .ok (.bipush 8, 2) := by decide +kernel
theorem dX2_init_19 : decode cX2_init 19 = .ok (.bipush 8, 2) := by decide +kernel
theorem dX2_init_21 : decode cX2_init 21 = .ok (.multianewarray 9 2, 4) := by decide +kernel
theorem dX2_init_25 : decode cX2_init 25 = .ok (.putfield 16, 3) := by decide +kernel
theorem dX2_init_28 : decode cX2_init 28 = .ok (.aload_n 0, 1) := by decide +kernel
theorem dX2_init_29 : decode cX2_init 29 = .ok (.bipush 8, 2) := by decide +kernel
theorem dX2_init_31 : decode cX2_init 31 = .ok (.bipush 8, 2) := by decide +kernel
theorem dX2_init_33 : decode cX2_init 33 = .ok (.multianewarray 9 2, 4) := by decide +kernel
theorem dX2_init_37 : decode cX2_init 37 = .ok (.putfield 19, 3) := by decide +kernel
theorem dX2_init_40 : decode cX2_init 40 = .ok (.aload_n 0, 1) := by decide +kernel
theorem dX2_init_41 : decode cX2_init 41 = .ok (.bipush 8, 2) := by decide +kernel
theorem dX2_init_43 : decode cX2_init 43 = .ok (.newarray .int, 2) := by decide +kernel
theorem dX2_init_45 : decode cX2_init 45 = .ok (.putfield 22, 3) := by decide +kernel
theorem dX2_init_48 : decode cX2_init 48 = .ok (.aload_n 0, 1) := by decide +kernel
theorem dX2_init_49 : decode cX2_init 49 = .ok (.bipush 8, 2) := by decide +kernel
theorem dX2_init_51 : decode cX2_init 51 = .ok (.newarray .int, 2) := by decide +kernel
theorem dX2_init_53 : decode cX2_init 53 = .ok (.putfield 26, 3) := by decide +kernel
theorem dX2_init_56 : decode cX2_init 56 = .ok (.aload_n 0, 1) := by decide +kernel
theorem dX2_init_57 : decode cX2_init 57 = .ok (.bipush 8, 2) := by decide +kernel
theorem dX2_init_59 : decode cX2_init 59 = .ok (.newarray .boolean, 2) := by decide +kernel
theorem dX2_init_61 : decode cX2_init 61 = .ok (.putfield 29, 3) := by decide +kernel
theorem dX2_init_64 : decode cX2_init 64 = .ok (.aload_n 0, 1) := by decide +kernel
theorem dX2_init_65 : decode cX2_init 65 = .ok (.bipush 8, 2) := by decide +kernel
theorem dX2_init_67 : decode cX2_init 67 = .ok (.newarray .int, 2) := by decide +kernel
theorem dX2_init_69 : decode cX2_init 69 = .ok (.putfield 33, 3) := by decide +kernel
theorem dX2_init_72 : decode cX2_init 72 = .ok (.aload_n 0, 1) := by decide +kernel
theorem dX2_init_73 : decode cX2_init 73 = .ok (.bipush 8, 2) := by decide +kernel
theorem dX2_init_75 : decode cX2_init 75 = .ok (.newarray .int, 2) := by decide +kernel
theorem dX2_init_77 : decode cX2_init 77 = .ok (.putfield 36, 3) := by decide +kernel
theorem dX2_init_80 : decode cX2_init 80 = .ok (.aload_n 0, 1) := by decide +kernel
theorem dX2_init_81 : decode cX2_init 81 = .ok (.aload_n 1, 1) := by decide +kernel
theorem dX2_init_82 : decode cX2_init 82 = .ok (.putfield 39, 3) := by decide +kernel
theorem dX2_init_85 : decode cX2_init 85 = .ok (.aload_n 0, 1) := by decide +kernel
theorem dX2_init_86 : decode cX2_init 86 = .ok (.aload_n 2, 1) := by decide +kernel
theorem dX2_init_87 : decode cX2_init 87 = .ok (.putfield 43, 3) := by decide +kernel
theorem dX2_init_90 : decode cX2_init 90 = .ok (.aload_n 0, 1) := by decide +kernel
theorem dX2_init_91 : decode cX2_init 91 = .ok (.aload_n 3, 1) := by decide +kernel
theorem dX2_init_92 : decode cX2_init 92 = .ok (.putfield 47, 3) := by decide +kernel
theorem dX2_init_95 : decode cX2_init 95 = .ok (.return_, 1) := by decide +kernel
theorem dX2_countAll_0 : decode cX2_countAll 0 = .ok (.iconst 0, 1) := by decide +kernel
theorem dX2_countAll_1 : decode cX2_countAll 1 = .ok (.istore_n 2, 1) := by decide +kernel
theorem dX2_countAll_2 : decode cX2_countAll 2 = .ok (.iload_n 2, 1) := by decide +kernel
theorem dX2_countAll_3 : decode cX2_countAll 3 = .ok (.aload_n 0, 1) := by decide +kernel
theorem dX2_countAll_4 : decode cX2_countAll 4 = .ok (.getfield 39, 3) := by decide +kernel
theorem dX2_countAll_7 : decode cX2_countAll 7 = .ok (.getfield 51, 3) := by decide +kernel
theorem dX2_countAll_10 : decode cX2_countAll 10 = .ok (.if_icmp .ge 14, 3) := by decide +kernel
theorem dX2_countAll_13 : decode cX2_countAll 13 = .ok (.aload_n 0, 1) := by decide +kernel
theorem dX2_countAll_14 : decode cX2_countAll 14 = .ok (.iload_n 2, 1) := by decide +kernel
theorem dX2_countAll_15 : decode cX2_countAll 15 = .ok (.invokevirtual 57, 3) := by decide +kernel
theorem dX2_countAll_18 : decode cX2_countAll 18 = .ok (.iinc 2 1, 3) := by decide +kernel
theorem dX2_countAll_21 : decode cX2_countAll 21 = .ok (.goto (-19), 3) := by decide +kernel
theorem dX2_countAll_24 : decode cX2_countAll 24 = .ok (.iload_n 1, 1) := by decide +kernel
theorem dX2_countAll_25 : decode cX2_countAll 25 = .ok (.ifCond .eq 7, 3) := by decide +kernel
theorem dX2_countAll_28 : decode cX2_countAll 28 = .ok (.aload_n 0, 1) := by decide +kernel
theorem dX2_countAll_29 : decode cX2_countAll 29 = .ok (.invokevirtual 61, 3) := by decide +kernel
theorem dX2_countAll_32 : decode cX2_countAll 32 = .ok (.iconst 0, 1) := by decide +kernel
theorem dX2_countAll_33 : decode cX2_countAll 33 = .ok (.istore_n 2, 1) := by decide +kernel
theorem dX2_countAll_34 : decode cX2_countAll 34 = .ok (.iload_n 2, 1) := by decide +kernel
theorem dX2_countAll_35 : decode cX2_countAll 35 = .ok (.aload_n 0, 1) := by decide +kernel
theorem dX2_countAll_36 : decode cX2_countAll 36 = .ok (.getfield 39, 3) := by decide +kernel
theorem dX2_countAll_39 : decode cX2_countAll 39 = .ok (.getfield 51, 3) := by decide +kernel
theorem dX2_countAll_42 : decode cX2_countAll 42 = .ok (.if_icmp .ge 28, 3) := by decide +kernel
theorem dX2_countAll_45 : decode cX2_countAll 45 = .ok (.aload_n 0, 1) := by decide +kernel
theorem dX2_countAll_46 : decode cX2_countAll 46 = .ok (.getfield 29, 3) := by decide +kernel
theorem dX2_countAll_49 : decode cX2_countAll 49 = .ok (.iload_n 2, 1) := by decide +kernel
theorem dX2_countAll_50 : decode cX2_countAll 50 = .ok (.baload, 1) := by decide +kernel
theorem dX2_countAll_51 : decode cX2_countAll 51 = .ok (.ifCond .eq 13, 3) := by decide +kernel
theorem dX2_countAll_54 : decode cX2_countAll 54 = .ok (.aload_n 0, 1) := by decide +kernel
theorem dX2_countAll_55 : decode cX2_countAll 55 = .ok (.iload_n 2, 1) := by decide +kernel
theorem dX2_countAll_56 : decode cX2_countAll 56 = .ok (.invokevirtual 64, 3) := by decide +kernel
theorem dX2_countAll_59 : decode cX2_countAll 59 = .ok (.aload_n 0, 1) := by decide +kernel
theorem dX2_countAll_60 : decode cX2_countAll 60 = .ok (.iload_n 2, 1) := by decide +kernel
theorem dX2_countAll_61 : decode cX2_countAll 61 = .ok (.invokevirtual 67, 3) := by decide +kernel
theorem dX2_countAll_64 : decode cX2_countAll 64 = .ok (.iinc 2 1, 3) := by decide +kernel
theorem dX2_countAll_67 : decode cX2_countAll 67 = .ok (.goto (-33), 3) := by decide +kernel
theorem dX2_countAll_70 : decode cX2_countAll 70 = .ok (.iconst 0, 1) := by decide +kernel
theorem dX2_countAll_71 : decode cX2_countAll 71 = .ok (.istore_n 2, 1) := by decide +kernel
theorem dX2_countAll_72 : decode cX2_countAll 72 = .ok (.iload_n 2, 1) := by decide +kernel
theorem dX2_countAll_73 : decode cX2_countAll 73 = .ok (.aload_n 0, 1) := by decide +kernel
theorem dX2_countAll_74 : decode cX2_countAll 74 = .ok (.getfield 39, 3) := by decide +kernel
theorem dX2_countAll_77 : decode cX2_countAll 77 = .ok (.getfield 51, 3) := by decide +kernel
theorem dX2_countAll_80 : decode cX2_countAll 80 = .ok (.if_icmp .ge 14, 3) := by decide +kernel
theorem dX2_countAll_83 : decode cX2_countAll 83 = .ok (.aload_n 0, 1) := by decide +kernel
theorem dX2_countAll_84 : decode cX2_countAll 84 = .ok (.iload_n 2, 1) := by decide +kernel
theorem dX2_countAll_85 : decode cX2_countAll 85 = .ok (.invokevirtual 70, 3) := by decide +kernel
theorem dX2_countAll_88 : decode cX2_countAll 88 = .ok (.iinc 2 1, 3) := by decide +kernel
theorem dX2_countAll_91 : decode cX2_countAll 91 = .ok (.goto (-19), 3) := by decide +kernel
theorem dX2_countAll_94 : decode cX2_countAll 94 = .ok (.return_, 1) := by decide +kernel
theorem dX2_countLand_0 : decode cX2_countLand 0 = .ok (.aload_n 0, 1) := by decide +kernel
theorem dX2_countLand_1 : decode cX2_countLand 1 = .ok (.getfield 47, 3) := by decide +kernel
theorem dX2_countLand_4 : decode cX2_countLand 4 = .ok (.iload_n 1, 1) := by decide +kernel
theorem dX2_countLand_5 : decode cX2_countLand 5 = .ok (.invokevirtual 73, 3) := by decide +kernel
theorem dX2_countLand_8 : decode cX2_countLand 8 = .ok (.istore_n 2, 1) := by decide +kernel
theorem dX2_countLand_9 : decode cX2_countLand 9 = .ok (.aload_n 0, 1) := by decide +kernel
theorem dX2_countLand_10 : decode cX2_countLand 10 = .ok (.getfield 29, 3) := by decide +kernel
theorem dX2_countLand_13 : decode cX2_countLand 13 = .ok (.iload_n 1, 1) := by decide +kernel
theorem dX2_countLand_14 : decode cX2_countLand 14 = .ok (.iload_n 2, 1) := by decide +kernel
theorem dX2_countLand_15 : decode cX2_countLand 15 = .ok (.iconst 2, 1) := by decide +kernel
theorem dX2_countLand_16 : decode cX2_countLand 16 = .ok (.if_icmp .ge 7, 3) := by decide +kernel
theorem dX2_countLand_19 : decode cX2_countLand 19 = .ok (.iconst 1, 1) := by decide +kernel
theorem dX2_countLand_20 : decode cX2_countLand 20 = .ok (.goto 4, 3) := by decide +kernel
theorem dX2_countLand_23 : decode cX2_countLand 23 = .ok (.iconst 0, 1) := by decide +kernel
theorem dX2_countLand_24 : decode cX2_countLand 24 = .ok (.bastore, 1) := by decide +kernel
theorem dX2_countLand_25 : decode cX2_countLand 25 = .ok (.aload_n 0, 1) := by decide +kernel
theorem dX2_countLand_26 : decode cX2_countLand 26 = .ok (.getfield 26, 3) := by decide +kernel
theorem dX2_countLand_29 : decode cX2_countLand 29 = .ok (.iload_n 1, 1) := by decide +kernel
theorem dX2_countLand_30 : decode cX2_countLand 30 = .ok (.iconst (-1), 1) := by decide +kernel
theorem dX2_countLand_31 : decode cX2_countLand 31 = .ok (.iastore, 1) := by decide +kernel
theorem dX2_countLand_32 : decode cX2_countLand 32 = .ok (.aload_n 0, 1) := by decide +kernel
theorem dX2_countLand_33 : decode cX2_countLand 33 = .ok (.iload_n 1, 1) := by decide +kernel
theorem dX2_countLand_34 : decode cX2_countLand 34 = .ok (.invokevirtual 79, 3) := by decide +kernel
theorem dX2_countLand_37 : decode cX2_countLand 37 = .ok (.aload_n 0, 1) := by decide +kernel
theorem dX2_countLand_38 : decode cX2_countLand 38 = .ok (.iload_n 1, 1) := by decide +kernel
theorem dX2_countLand_39 : decode cX2_countLand 39 = .ok (.invokevirtual 67, 3) := by decide +kernel
theorem dX2_countLand_42 : decode cX2_countLand 42 = .ok (.iload_n 2, 1) := by decide +kernel
theorem dX2_countLand_43 : decode cX2_countLand 43 = .ok (.iconst 3, 1) := by decide +kernel
theorem dX2_countLand_44 : decode cX2_countLand 44 = .ok (.if_icmp .lt 14, 3) := by decide +kernel
theorem dX2_countLand_47 : decode cX2_countLand 47 = .ok (.aload_n 0, 1) := by decide +kernel
theorem dX2_countLand_48 : decode cX2_countLand 48 = .ok (.getfield 26, 3) := by decide +kernel
theorem dX2_countLand_51 : decode cX2_countLand 51 = .ok (.iload_n 1, 1) := by decide +kernel
theorem dX2_countLand_52 : decode cX2_countLand 52 = .ok (.aload_n 0, 1) := by decide +kernel
theorem dX2_countLand_53 : decode cX2_countLand 53 = .ok (.iload_n 1, 1) := by decide +kernel
theorem dX2_countLand_54 : decode cX2_countLand 54 = .ok (.invokevirtual 82, 3) := by decide +kernel
theorem dX2_countLand_57 : decode cX2_countLand 57 = .ok (.iastore, 1) := by decide +kernel
theorem dX2_countLand_58 : decode cX2_countLand 58 = .ok (.aload_n 0, 1) := by decide +kernel
theorem dX2_countLand_59 : decode cX2_countLand 59 = .ok (.getfield 26, 3) := by decide +kernel
theorem dX2_countLand_62 : decode cX2_countLand 62 = .ok (.iload_n 1, 1) := by decide +kernel
theorem dX2_countLand_63 : decode cX2_countLand 63 = .ok (.iaload, 1) := by decide +kernel
theorem dX2_countLand_64 : decode cX2_countLand 64 = .ok (.iconst (-1), 1) := by decide +kernel
theorem dX2_countLand_65 : decode cX2_countLand 65 = .ok (.if_icmp .eq 13, 3) := by decide +kernel
theorem dX2_countLand_68 : decode cX2_countLand 68 = .ok (.aload_n 0, 1) := by decide +kernel
theorem dX2_countLand_69 : decode cX2_countLand 69 = .ok (.iload_n 1, 1) := by decide +kernel
theorem dX2_countLand_70 : decode cX2_countLand 70 = .ok (.invokevirtual 79, 3) := by decide +kernel
theorem dX2_countLand_73 : decode cX2_countLand 73 = .ok (.aload_n 0, 1) := by decide +kernel
theorem dX2_countLand_74 : decode cX2_countLand 74 = .ok (.iload_n 1, 1) := by decide +kernel
theorem dX2_countLand_75 : decode cX2_countLand 75 = .ok (.invokevirtual 67, 3) := by decide +kernel
theorem dX2_countLand_78 : decode cX2_countLand 78 = .ok (.aload_n 0, 1) := by decide +kernel
theorem dX2_countLand_79 : decode cX2_countLand 79 = .ok (.getfield 33, 3) := by decide +kernel
theorem dX2_countLand_82 : decode cX2_countLand 82 = .ok (.iload_n 1, 1) := by decide +kernel
theorem dX2_countLand_83 : decode cX2_countLand 83 = .ok (.aload_n 0, 1) := by decide +kernel
theorem dX2_countLand_84 : decode cX2_countLand 84 = .ok (.iload_n 1, 1) := by decide +kernel
theorem dX2_countLand_85 : decode cX2_countLand 85 = .ok (.invokevirtual 85, 3) := by decide +kernel
theorem dX2_countLand_88 : decode cX2_countLand 88 = .ok (.iastore, 1) := by decide +kernel
theorem dX2_countLand_89 : decode cX2_countLand 89 = .ok (.return_, 1) := by decide +kernel
theorem dX2_isCounting_0 : decode cX2_isCounting 0 = .ok (.aload_n 0, 1) := by decide +kernel
theorem dX2_isCounting_1 : decode cX2_isCounting 1 = .ok (.getfield 47, 3) := by decide +kernel
theorem dX2_isCounting_4 : decode cX2_isCounting 4 = .ok (.getfield 88, 3) := by decide +kernel
theorem dX2_isCounting_7 : decode cX2_isCounting 7 = .ok (.iload_n 1, 1) := by decide +kernel
theorem dX2_isCounting_8 : decode cX2_isCounting 8 = .ok (.iload_n 2, 1) := by decide +kernel
theorem dX2_isCounting_9 : decode cX2_isCounting 9 = .ok (.invokestatic 91, 3) := by decide +kernel
theorem dX2_isCounting_12 : decode cX2_isCounting 12 = .ok (.baload, 1) := by decide +kernel
theorem dX2_isCounting_13 : decode cX2_isCounting 13 = .ok (.ifCond .eq 17, 3) := by decide +kernel
theorem dX2_isCounting_16 : decode cX2_isCounting 16 = .ok (.iload_n 2, 1) := by decide +kernel
theorem dX2_isCounting_17 : decode cX2_isCounting 17 = .ok (.aload_n 0, 1) := by decide +kernel
theorem dX2_isCounting_18 : decode cX2_isCounting 18 = .ok (.getfield 26, 3) := by decide +kernel
theorem dX2_isCounting_21 : decode cX2_isCounting 21 = .ok (.iload_n 1, 1) := by decide +kernel
theorem dX2_isCounting_22 : decode cX2_isCounting 22 = .ok (.iaload, 1) := by decide +kernel
theorem dX2_isCounting_23 : decode cX2_isCounting 23 = .ok (.if_icmp .eq 7, 3) := by decide +kernel
theorem dX2_isCounting_26 : decode cX2_isCounting 26 = .ok (.iconst 1, 1) := by decide +kernel
theorem dX2_isCounting_27 : decode cX2_isCounting 27 = .ok (.goto 4, 3) := by decide +kernel
theorem dX2_isCounting_30 : decode cX2_isCounting 30 = .ok (.iconst 0, 1) := by decide +kernel
theorem dX2_isCounting_31 : decode cX2_isCounting 31 = .ok (.ireturn, 1) := by decide +kernel
theorem dX2_addBallots_0 : decode cX2_addBallots 0 = .ok (.aload_n 0, 1) := by decide +kernel
theorem dX2_addBallots_1 : decode cX2_addBallots 1 = .ok (.getfield 11, 3) := by decide +kernel
theorem dX2_addBallots_4 : decode cX2_addBallots 4 = .ok (.iload_n 1, 1) := by decide +kernel
theorem dX2_addBallots_5 : decode cX2_addBallots 5 = .ok (.aaload, 1) := by decide +kernel
theorem dX2_addBallots_6 : decode cX2_addBallots 6 = .ok (.invokestatic 95, 3) := by decide +kernel
theorem dX2_addBallots_9 : decode cX2_addBallots 9 = .ok (.iconst 0, 1) := by decide +kernel
theorem dX2_addBallots_10 : decode cX2_addBallots 10 = .ok (.istore_n 2, 1) := by decide +kernel
theorem dX2_addBallots_11 : decode cX2_addBallots 11 = .ok (.iload_n 2, 1) := by decide +kernel
theorem dX2_addBallots_12 : decode cX2_addBallots 12 = .ok (.iconst 5, 1) := by decide +kernel
theorem dX2_addBallots_13 : decode cX2_addBallots 13 = .ok (.if_icmp .ge 33, 3) := by decide +kernel
theorem dX2_addBallots_16 : decode cX2_addBallots 16 = .ok (.aload_n 0, 1) := by decide +kernel
theorem dX2_addBallots_17 : decode cX2_addBallots 17 = .ok (.iload_n 1, 1) := by decide +kernel
theorem dX2_addBallots_18 : decode cX2_addBallots 18 = .ok (.iload_n 2, 1) := by decide +kernel
theorem dX2_addBallots_19 : decode cX2_addBallots 19 = .ok (.invokevirtual 99, 3) := by decide +kernel
theorem dX2_addBallots_22 : decode cX2_addBallots 22 = .ok (.ifCond .eq 18, 3) := by decide +kernel
theorem dX2_addBallots_25 : decode cX2_addBallots 25 = .ok (.aload_n 0, 1) := by decide +kernel
theorem dX2_addBallots_26 : decode cX2_addBallots 26 = .ok (.getfield 47, 3) := by decide +kernel
theorem dX2_addBallots_29 : decode cX2_addBallots 29 = .ok (.iload_n 1, 1) := by decide +kernel
theorem dX2_addBallots_30 : decode cX2_addBallots 30 = .ok (.iload_n 2, 1) := by decide +kernel
theorem dX2_addBallots_31 : decode cX2_addBallots 31 = .ok (.aload_n 0, 1) := by decide +kernel
theorem dX2_addBallots_32 : decode cX2_addBallots 32 = .ok (.getfield 11, 3) := by decide +kernel
theorem dX2_addBallots_35 : decode cX2_addBallots 35 = .ok (.iload_n 1, 1) := by decide +kernel
theorem dX2_addBallots_36 : decode cX2_addBallots 36 = .ok (.aaload, 1) := by decide +kernel
theorem dX2_addBallots_37 : decode cX2_addBallots 37 = .ok (.invokevirtual 103, 3) := by decide +kernel
theorem dX2_addBallots_40 : decode cX2_addBallots 40 = .ok (.iinc 2 1, 3) := by decide +kernel
theorem dX2_addBallots_43 : decode cX2_addBallots 43 = .ok (.goto (-32), 3) := by decide +kernel
theorem dX2_addBallots_46 : decode cX2_addBallots 46 = .ok (.return_, 1) := by decide +kernel
theorem dX2_sortCandidates_0 : decode cX2_sortCandidates 0 = .ok (.aload_n 0, 1) := by decide +kernel
theorem dX2_sortCandidates_1 : decode cX2_sortCandidates 1 = .ok (.getfield 22, 3) := by decide +kernel
theorem dX2_sortCandidates_4 : decode cX2_sortCandidates 4 = .ok (.iload_n 1, 1) := by decide +kernel
theorem dX2_sortCandidates_5 : decode cX2_sortCandidates 5 = .ok (.aload_n 0, 1) := by decide +kernel
theorem dX2_sortCandidates_6 : decode cX2_sortCandidates 6 = .ok (.getfield 43, 3) := by decide +kernel
theorem dX2_sortCandidates_9 : decode cX2_sortCandidates 9 = .ok (.iload_n 1, 1) := by decide +kernel
theorem dX2_sortCandidates_10 : decode cX2_sortCandidates 10 = .ok (.aload_n 0, 1) := by decide +kernel
theorem dX2_sortCandidates_11 : decode cX2_sortCandidates 11 = .ok (.getfield 16, 3) := by decide +kernel
theorem dX2_sortCandidates_14 : decode cX2_sortCandidates 14 = .ok (.iload_n 1, 1) := by decide +kernel
theorem dX2_sortCandidates_15 : decode cX2_sortCandidates 15 = .ok (.aaload, 1) := by decide +kernel
theorem dX2_sortCandidates_16 : decode cX2_sortCandidates 16 = .ok (.invokevirtual 107, 3) := by decide +kernel
theorem dX2_sortCandidates_19 : decode cX2_sortCandidates 19 = .ok (.iastore, 1) := by decide +kernel
theorem dX2_sortCandidates_20 : decode cX2_sortCandidates 20 = .ok (.aload_n 0, 1) := by decide +kernel
theorem dX2_sortCandidates_21 : decode cX2_sortCandidates 21 = .ok (.getfield 16, 3) := by decide +kernel
theorem dX2_sortCandidates_24 : decode cX2_sortCandidates 24 = .ok (.iload_n 1, 1) := by decide +kernel
theorem dX2_sortCandidates_25 : decode cX2_sortCandidates 25 = .ok (.aaload, 1) := by decide +kernel
theorem dX2_sortCandidates_26 : decode cX2_sortCandidates 26 = .ok (.aload_n 0, 1) := by decide +kernel
theorem dX2_sortCandidates_27 : decode cX2_sortCandidates 27 = .ok (.getfield 22, 3) := by decide +kernel
theorem dX2_sortCandidates_30 : decode cX2_sortCandidates 30 = .ok (.iload_n 1, 1) := by decide +kernel
theorem dX2_sortCandidates_31 : decode cX2_sortCandidates 31 = .ok (.iaload, 1) := by decide +kernel
theorem dX2_sortCandidates_32 : decode cX2_sortCandidates 32 = .ok (.aload_n 0, 1) := by decide +kernel
theorem dX2_sortCandidates_33 : decode cX2_sortCandidates 33 = .ok (.getfield 11, 3) := by decide +kernel
theorem dX2_sortCandidates_36 : decode cX2_sortCandidates 36 = .ok (.iload_n 1, 1) := by decide +kernel
theorem dX2_sortCandidates_37 : decode cX2_sortCandidates 37 = .ok (.aaload, 1) := by decide +kernel
theorem dX2_sortCandidates_38 : decode cX2_sortCandidates 38 = .ok (.invokestatic 113, 3) := by decide +kernel
theorem dX2_sortCandidates_41 : decode cX2_sortCandidates 41 = .ok (.return_, 1) := by decide +kernel
theorem dX2_findOutlier_0 : decode cX2_findOutlier 0 = .ok (.iconst 0, 1) := by decide +kernel
theorem dX2_findOutlier_1 : decode cX2_findOutlier 1 = .ok (.istore_n 2, 1) := by decide +kernel
theorem dX2_findOutlier_2 : decode cX2_findOutlier 2 = .ok (.iload_n 2, 1) := by decide +kernel
theorem dX2_findOutlier_3 : decode cX2_findOutlier 3 = .ok (.aload_n 0, 1) := by decide +kernel
theorem dX2_findOutlier_4 : decode cX2_findOutlier 4 = .ok (.getfield 22, 3) := by decide +kernel
theorem dX2_findOutlier_7 : decode cX2_findOutlier 7 = .ok (.iload_n 1, 1) := by decide +kernel
theorem dX2_findOutlier_8 : decode cX2_findOutlier 8 = .ok (.iaload, 1) := by decide +kernel
theorem dX2_findOutlier_9 : decode cX2_findOutlier 9 = .ok (.if_icmp .ge 23, 3) := by decide +kernel
theorem dX2_findOutlier_12 : decode cX2_findOutlier 12 = .ok (.aload_n 0, 1) := by decide +kernel
theorem dX2_findOutlier_13 : decode cX2_findOutlier 13 = .ok (.getfield 36, 3) := by decide +kernel
theorem dX2_findOutlier_16 : decode cX2_findOutlier 16 = .ok (.aload_n 0, 1) := by decide +kernel
theorem dX2_findOutlier_17 : decode cX2_findOutlier 17 = .ok (.getfield 16, 3) := by decide +kernel
theorem dX2_findOutlier_20 : decode cX2_findOutlier 20 = .ok (.iload_n 1, 1) := by decide +kernel
theorem dX2_findOutlier_21 : decode cX2_findOutlier 21 = .ok (.aaload, 1) := by decide +kernel
theorem dX2_findOutlier_22 : decode cX2_findOutlier 22 = .ok (.iload_n 2, 1) := by decide +kernel
theorem dX2_findOutlier_23 : decode cX2_findOutlier 23 = .ok (.iaload, 1) := by decide +kernel
theorem dX2_findOutlier_24 : decode cX2_findOutlier 24 = .ok (.iload_n 2, 1) := by decide +kernel
theorem dX2_findOutlier_25 : decode cX2_findOutlier 25 = .ok (.iastore, 1) := by decide +kernel
theorem dX2_findOutlier_26 : decode cX2_findOutlier 26 = .ok (.iinc 2 1, 3) := by decide +kernel
theorem dX2_findOutlier_29 : decode cX2_findOutlier 29 = .ok (.goto (-27), 3) := by decide +kernel
theorem dX2_findOutlier_32 : decode cX2_findOutlier 32 = .ok (.iconst (-1), 1) := by decide +kernel
theorem dX2_findOutlier_33 : decode cX2_findOutlier 33 = .ok (.istore_n 2, 1) := by decide +kernel
theorem dX2_findOutlier_34 : decode cX2_findOutlier 34 = .ok (.iconst 0, 1) := by decide +kernel
theorem dX2_findOutlier_35 : decode cX2_findOutlier 35 = .ok (.istore_n 3, 1) := by decide +kernel
theorem dX2_findOutlier_36 : decode cX2_findOutlier 36 = .ok (.iconst 0, 1) := by decide +kernel
theorem dX2_findOutlier_37 : decode cX2_findOutlier 37 = .ok (.istore 4, 2) := by decide +kernel
theorem dX2_findOutlier_39 : decode cX2_findOutlier 39 = .ok (.iload 4, 2) := by decide +kernel
theorem dX2_findOutlier_41 : decode cX2_findOutlier 41 = .ok (.iconst 5, 1) := by decide +kernel
theorem dX2_findOutlier_42 : decode cX2_findOutlier 42 = .ok (.if_icmp .ge 51, 3) := by decide +kernel
theorem dX2_findOutlier_45 : decode cX2_findOutlier 45 = .ok (.aload_n 0, 1) := by decide +kernel
theorem dX2_findOutlier_46 : decode cX2_findOutlier 46 = .ok (.iload_n 1, 1) := by decide +kernel
theorem dX2_findOutlier_47 : decode cX2_findOutlier 47 = .ok (.iload 4, 2) := by decide +kernel
theorem dX2_findOutlier_49 : decode cX2_findOutlier 49 = .ok (.invokevirtual 99, 3) := by decide +kernel
theorem dX2_findOutlier_52 : decode cX2_findOutlier 52 = .ok (.ifCond .eq 20, 3) := by decide +kernel
theorem dX2_findOutlier_55 : decode cX2_findOutlier 55 = .ok (.aload_n 0, 1) := by decide +kernel
theorem dX2_findOutlier_56 : decode cX2_findOutlier 56 = .ok (.getfield 47, 3) := by decide +kernel
theorem dX2_findOutlier_59 : decode cX2_findOutlier 59 = .ok (.iload_n 1, 1) := by decide +kernel
theorem dX2_findOutlier_60 : decode cX2_findOutlier 60 = .ok (.iload 4, 2) := by decide +kernel
theorem dX2_findOutlier_62 : decode cX2_findOutlier 62 = .ok (.aload_n 0, 1) := by decide +kernel
theorem dX2_findOutlier_63 : decode cX2_findOutlier 63 = .ok (.getfield 36, 3) := by decide +kernel
theorem dX2_findOutlier_66 : decode cX2_findOutlier 66 = .ok (.invokevirtual 117, 3) := by decide +kernel
theorem dX2_findOutlier_69 : decode cX2_findOutlier 69 = .ok (.goto 4, 3) := by decide +kernel
theorem dX2_findOutlier_72 : decode cX2_findOutlier 72 = .ok (.iconst 0, 1) := by decide +kernel
theorem dX2_findOutlier_73 : decode cX2_findOutlier 73 = .ok (.istore 5, 2) := by decide +kernel
theorem dX2_findOutlier_75 : decode cX2_findOutlier 75 = .ok (.iload 5, 2) := by decide +kernel
theorem dX2_findOutlier_77 : decode cX2_findOutlier 77 = .ok (.iload_n 3, 1) := by decide +kernel
theorem dX2_findOutlier_78 : decode cX2_findOutlier 78 = .ok (.if_icmp .le 9, 3) := by decide +kernel
theorem dX2_findOutlier_81 : decode cX2_findOutlier 81 = .ok (.iload 5, 2) := by decide +kernel
theorem dX2_findOutlier_83 : decode cX2_findOutlier 83 = .ok (.istore_n 3, 1) := by decide +kernel
theorem dX2_findOutlier_84 : decode cX2_findOutlier 84 = .ok (.iload 4, 2) := by decide +kernel
theorem dX2_findOutlier_86 : decode cX2_findOutlier 86 = .ok (.istore_n 2, 1) := by decide +kernel
theorem dX2_findOutlier_87 : decode cX2_findOutlier 87 = .ok (.iinc 4 1, 3) := by decide +kernel
theorem dX2_findOutlier_90 : decode cX2_findOutlier 90 = .ok (.goto (-51), 3) := by decide +kernel
theorem dX2_findOutlier_93 : decode cX2_findOutlier 93 = .ok (.iconst 2, 1) := by decide +kernel
theorem dX2_findOutlier_94 : decode cX2_findOutlier 94 = .ok (.iload_n 3, 1) := by decide +kernel
theorem dX2_findOutlier_95 : decode cX2_findOutlier 95 = .ok (.imul, 1) := by decide +kernel
theorem dX2_findOutlier_96 : decode cX2_findOutlier 96 = .ok (.iconst 3, 1) := by decide +kernel
theorem dX2_findOutlier_97 : decode cX2_findOutlier 97 = .ok (.aload_n 0, 1) := by decide +kernel
theorem dX2_findOutlier_98 : decode cX2_findOutlier 98 = .ok (.getfield 22, 3) := by decide +kernel
theorem dX2_findOutlier_101 : decode cX2_findOutlier 101 = .ok (.iload_n 1, 1) := by decide +kernel
theorem dX2_findOutlier_102 : decode cX2_findOutlier 102 = .ok (.iaload, 1) := by decide +kernel
theorem dX2_findOutlier_103 : decode cX2_findOutlier 103 = .ok (.imul, 1) := by decide +kernel
theorem dX2_findOutlier_104 : decode cX2_findOutlier 104 = .ok (.if_icmp .le 7, 3) := by decide +kernel
theorem dX2_findOutlier_107 : decode cX2_findOutlier 107 = .ok (.iload_n 2, 1) := by decide +kernel
theorem dX2_findOutlier_108 : decode cX2_findOutlier 108 = .ok (.goto 4, 3) := by decide +kernel
theorem dX2_findOutlier_111 : decode cX2_findOutlier 111 = .ok (.iconst (-1), 1) := by decide +kernel
theorem dX2_findOutlier_112 : decode cX2_findOutlier 112 = .ok (.ireturn, 1) := by decide +kernel
theorem dX2_findPraised_0 : decode cX2_findPraised 0 = .ok (.aload_n 0, 1) := by decide +kernel
theorem dX2_findPraised_1 : decode cX2_findPraised 1 = .ok (.getfield 22, 3) := by decide +kernel
theorem dX2_findPraised_4 : decode cX2_findPraised 4 = .ok (.iload_n 1, 1) := by decide +kernel
theorem dX2_findPraised_5 : decode cX2_findPraised 5 = .ok (.iaload, 1) := by decide +kernel
theorem dX2_findPraised_6 : decode cX2_findPraised 6 = .ok (.ifCond .le 14, 3) := by decide +kernel
theorem dX2_findPraised_9 : decode cX2_findPraised 9 = .ok (.aload_n 0, 1) := by decide +kernel
theorem dX2_findPraised_10 : decode cX2_findPraised 10 = .ok (.getfield 16, 3) := by decide +kernel
theorem dX2_findPraised_13 : decode cX2_findPraised 13 = .ok (.iload_n 1, 1) := by decide +kernel
theorem dX2_findPraised_14 : decode cX2_findPraised 14 = .ok (.aaload, 1) := by decide +kernel
theorem dX2_findPraised_15 : decode cX2_findPraised 15 = .ok (.iconst 0, 1) := by decide +kernel
theorem dX2_findPraised_16 : decode cX2_findPraised 16 = .ok (.iaload, 1) := by decide +kernel
theorem dX2_findPraised_17 : decode cX2_findPraised 17 = .ok (.goto 4, 3) := by decide +kernel
theorem dX2_findPraised_20 : decode cX2_findPraised 20 = .ok (.iconst (-1), 1) := by decide +kernel
theorem dX2_findPraised_21 : decode cX2_findPraised 21 = .ok (.istore_n 2, 1) := by decide +kernel
theorem dX2_findPraised_22 : decode cX2_findPraised 22 = .ok (.iconst 0, 1) := by decide +kernel
theorem dX2_findPraised_23 : decode cX2_findPraised 23 = .ok (.istore_n 3, 1) := by decide +kernel
theorem dX2_findPraised_24 : decode cX2_findPraised 24 = .ok (.iconst 0, 1) := by decide +kernel
theorem dX2_findPraised_25 : decode cX2_findPraised 25 = .ok (.istore 4, 2) := by decide +kernel
theorem dX2_findPraised_27 : decode cX2_findPraised 27 = .ok (.iload 4, 2) := by decide +kernel
theorem dX2_findPraised_29 : decode cX2_findPraised 29 = .ok (.iconst 5, 1) := by decide +kernel
theorem dX2_findPraised_30 : decode cX2_findPraised 30 = .ok (.if_icmp .ge 36, 3) := by decide +kernel
theorem dX2_findPraised_33 : decode cX2_findPraised 33 = .ok (.aload_n 0, 1) := by decide +kernel
theorem dX2_findPraised_34 : decode cX2_findPraised 34 = .ok (.iload_n 1, 1) := by decide +kernel
theorem dX2_findPraised_35 : decode cX2_findPraised 35 = .ok (.iload 4, 2) := by decide +kernel
theorem dX2_findPraised_37 : decode cX2_findPraised 37 = .ok (.invokevirtual 99, 3) := by decide +kernel
theorem dX2_findPraised_40 : decode cX2_findPraised 40 = .ok (.ifCond .eq 20, 3) := by decide +kernel
theorem dX2_findPraised_43 : decode cX2_findPraised 43 = .ok (.aload_n 0, 1) := by decide +kernel
theorem dX2_findPraised_44 : decode cX2_findPraised 44 = .ok (.getfield 47, 3) := by decide +kernel
theorem dX2_findPraised_47 : decode cX2_findPraised 47 = .ok (.iload_n 1, 1) := by decide +kernel
theorem dX2_findPraised_48 : decode cX2_findPraised 48 = .ok (.iload 4, 2) := by decide +kernel
theorem dX2_findPraised_50 : decode cX2_findPraised 50 = .ok (.invokevirtual 121, 3) := by decide +kernel
theorem dX2_findPraised_53 : decode cX2_findPraised 53 = .ok (.iload_n 2, 1) := by decide +kernel
theorem dX2_findPraised_54 : decode cX2_findPraised 54 = .ok (.if_icmp .ne 6, 3) := by decide +kernel
theorem dX2_findPraised_57 : decode cX2_findPraised 57 = .ok (.iinc 3 1, 3) := by decide +kernel
theorem dX2_findPraised_60 : decode cX2_findPraised 60 = .ok (.iinc 4 1, 3) := by decide +kernel
theorem dX2_findPraised_63 : decode cX2_findPraised 63 = .ok (.goto (-36), 3) := by decide +kernel
theorem dX2_findPraised_66 : decode cX2_findPraised 66 = .ok (.iload_n 3, 1) := by decide +kernel
theorem dX2_findPraised_67 : decode cX2_findPraised 67 = .ok (.iconst 3, 1) := by decide +kernel
theorem dX2_findPraised_68 : decode cX2_findPraised 68 = .ok (.if_icmp .lt 7, 3) := by decide +kernel
theorem dX2_findPraised_71 : decode cX2_findPraised 71 = .ok (.iload_n 2, 1) := by decide +kernel
theorem dX2_findPraised_72 : decode cX2_findPraised 72 = .ok (.goto 4, 3) := by decide +kernel
theorem dX2_findPraised_75 : decode cX2_findPraised 75 = .ok (.iconst (-1), 1) := by decide +kernel
theorem dX2_findPraised_76 : decode cX2_findPraised 76 = .ok (.ireturn, 1) := by decide +kernel
theorem dX2_voidPairs_0 : decode cX2_voidPairs 0 = .ok (.iconst 0, 1) := by decide +kernel
theorem dX2_voidPairs_1 : decode cX2_voidPairs 1 = .ok (.istore_n 1, 1) := by decide +kernel
theorem dX2_voidPairs_2 : decode cX2_voidPairs 2 = .ok (.iload_n 1, 1) := by decide +kernel
theorem dX2_voidPairs_3 : decode cX2_voidPairs 3 = .ok (.aload_n 0, 1) := by decide +kernel
theorem dX2_voidPairs_4 : decode cX2_voidPairs 4 = .ok (.getfield 39, 3) := by decide +kernel
theorem dX2_voidPairs_7 : decode cX2_voidPairs 7 = .ok (.getfield 51, 3) := by decide +kernel
theorem dX2_voidPairs_10 : decode cX2_voidPairs 10 = .ok (.if_icmp .ge 38, 3) := by decide +kernel
theorem dX2_voidPairs_13 : decode cX2_voidPairs 13 = .ok (.aload_n 0, 1) := by decide +kernel
theorem dX2_voidPairs_14 : decode cX2_voidPairs 14 = .ok (.getfield 33, 3) := by decide +kernel
theorem dX2_voidPairs_17 : decode cX2_voidPairs 17 = .ok (.iload_n 1, 1) := by decide +kernel
theorem dX2_voidPairs_18 : decode cX2_voidPairs 18 = .ok (.iaload, 1) := by decide +kernel
theorem dX2_voidPairs_19 : decode cX2_voidPairs 19 = .ok (.istore_n 2, 1) := by decide +kernel
theorem dX2_voidPairs_20 : decode cX2_voidPairs 20 = .ok (.iload_n 2, 1) := by decide +kernel
theorem dX2_voidPairs_21 : decode cX2_voidPairs 21 = .ok (.iconst (-1), 1) := by decide +kernel
theorem dX2_voidPairs_22 : decode cX2_voidPairs 22 = .ok (.if_icmp .eq 20, 3) := by decide +kernel
theorem dX2_voidPairs_25 : decode cX2_voidPairs 25 = .ok (.aload_n 0, 1) := by decide +kernel
theorem dX2_voidPairs_26 : decode cX2_voidPairs 26 = .ok (.getfield 33, 3) := by decide +kernel
theorem dX2_voidPairs_29 : decode cX2_voidPairs 29 = .ok (.iload_n 2, 1) := by decide +kernel
theorem dX2_voidPairs_30 : decode cX2_voidPairs 30 = .ok (.iaload, 1) := by decide +kernel
theorem dX2_voidPairs_31 : decode cX2_voidPairs 31 = .ok (.iload_n 1, 1) := by decide +kernel
theorem dX2_voidPairs_32 : decode cX2_voidPairs 32 = .ok (.if_icmp .ne 10, 3) := by decide +kernel
theorem dX2_voidPairs_35 : decode cX2_voidPairs 35 = .ok (.aload_n 0, 1) := by decide +kernel
theorem dX2_voidPairs_36 : decode cX2_voidPairs 36 = .ok (.getfield 29, 3) := by decide +kernel
theorem dX2_voidPairs_39 : decode cX2_voidPairs 39 = .ok (.iload_n 1, 1) := by decide +kernel
theorem dX2_voidPairs_40 : decode cX2_voidPairs 40 = .ok (.iconst 1, 1) := by decide +kernel
theorem dX2_voidPairs_41 : decode cX2_voidPairs 41 = .ok (.bastore, 1) := by decide +kernel
theorem dX2_voidPairs_42 : decode cX2_voidPairs 42 = .ok (.iinc 1 1, 3) := by decide +kernel
theorem dX2_voidPairs_45 : decode cX2_voidPairs 45 = .ok (.goto (-43), 3) := by decide +kernel
theorem dX2_voidPairs_48 : decode cX2_voidPairs 48 = .ok (.return_, 1) := by decide +kernel
theorem dX2_borrowSums_0 : decode cX2_borrowSums 0 = .ok (.aload_n 0, 1) := by decide +kernel
theorem dX2_borrowSums_1 : decode cX2_borrowSums 1 = .ok (.getfield 11, 3) := by decide +kernel
theorem dX2_borrowSums_4 : decode cX2_borrowSums 4 = .ok (.iload_n 1, 1) := by decide +kernel
theorem dX2_borrowSums_5 : decode cX2_borrowSums 5 = .ok (.aaload, 1) := by decide +kernel
theorem dX2_borrowSums_6 : decode cX2_borrowSums 6 = .ok (.invokestatic 95, 3) := by decide +kernel
theorem dX2_borrowSums_9 : decode cX2_borrowSums 9 = .ok (.iconst 0, 1) := by decide +kernel
theorem dX2_borrowSums_10 : decode cX2_borrowSums 10 = .ok (.istore_n 2, 1) := by decide +kernel
theorem dX2_borrowSums_11 : decode cX2_borrowSums 11 = .ok (.iload_n 2, 1) := by decide +kernel
theorem dX2_borrowSums_12 : decode cX2_borrowSums 12 = .ok (.aload_n 0, 1) := by decide +kernel
theorem dX2_borrowSums_13 : decode cX2_borrowSums 13 = .ok (.getfield 39, 3) := by decide +kernel
theorem dX2_borrowSums_16 : decode cX2_borrowSums 16 = .ok (.getfield 51, 3) := by decide +kernel
theorem dX2_borrowSums_19 : decode cX2_borrowSums 19 = .ok (.if_icmp .ge 45, 3) := by decide +kernel
theorem dX2_borrowSums_22 : decode cX2_borrowSums 22 = .ok (.aload_n 0, 1) := by decide +kernel
theorem dX2_borrowSums_23 : decode cX2_borrowSums 23 = .ok (.getfield 29, 3) := by decide +kernel
theorem dX2_borrowSums_26 : decode cX2_borrowSums 26 = .ok (.iload_n 2, 1) := by decide +kernel
theorem dX2_borrowSums_27 : decode cX2_borrowSums 27 = .ok (.baload, 1) := by decide +kernel
