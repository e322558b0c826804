theorem dX7_add_22 : decode cX7_add 22 = .ok (.getfield 32, 3) := by decide +kernel
theorem dX7_add_25 : decode cX7_add 25 = .ok (.iload_n 1, 1) := by decide +kernel
theorem dX7_add_26 : decode cX7_add 26 = .ok (.iload 4, 2) := by decide +kernel
theorem dX7_add_28 : decode cX7_add 28 = .ok (.iastore, 1) := by decide +kernel
theorem dX7_add_29 : decode cX7_add 29 = .ok (.aload_n 0, 1) := by decide +kernel
theorem dX7_add_30 : decode cX7_add 30 = .ok (.dup, 1) := by decide +kernel
theorem dX7_add_31 : decode cX7_add 31 = .ok (.getfield 9, 3) := by decide +kernel
theorem dX7_add_34 : decode cX7_add 34 = .ok (.iconst 1, 1) := by decide +kernel
theorem dX7_add_35 : decode cX7_add 35 = .ok (.iadd, 1) := by decide +kernel
theorem dX7_add_36 : decode cX7_add 36 = .ok (.putfield 9, 3) := by decide +kernel
theorem dX7_add_39 : decode cX7_add 39 = .ok (.return_, 1) := by decide +kernel
theorem dX7_putOut_0 : decode cX7_putOut 0 = .ok (.aload_n 0, 1) := by decide +kernel
theorem dX7_putOut_1 : decode cX7_putOut 1 = .ok (.getfield 22, 3) := by decide +kernel
theorem dX7_putOut_4 : decode cX7_putOut 4 = .ok (.iload_n 1, 1) := by decide +kernel
theorem dX7_putOut_5 : decode cX7_putOut 5 = .ok (.iconst 1, 1) := by decide +kernel
theorem dX7_putOut_6 : decode cX7_putOut 6 = .ok (.bastore, 1) := by decide +kernel
theorem dX7_putOut_7 : decode cX7_putOut 7 = .ok (.aload_n 0, 1) := by decide +kernel
theorem dX7_putOut_8 : decode cX7_putOut 8 = .ok (.dup, 1) := by decide +kernel
theorem dX7_putOut_9 : decode cX7_putOut 9 = .ok (.getfield 15, 3) := by decide +kernel
theorem dX7_putOut_12 : decode cX7_putOut 12 = .ok (.iconst 1, 1) := by decide +kernel
theorem dX7_putOut_13 : decode cX7_putOut 13 = .ok (.iadd, 1) := by decide +kernel
theorem dX7_putOut_14 : decode cX7_putOut 14 = .ok (.putfield 15, 3) := by decide +kernel
theorem dX7_putOut_17 : decode cX7_putOut 17 = .ok (.return_, 1) := by decide +kernel
theorem dX7_clear_0 : decode cX7_clear 0 = .ok (.iconst 0, 1) := by decide +kernel
theorem dX7_clear_1 : decode cX7_clear 1 = .ok (.istore_n 1, 1) := by decide +kernel
theorem dX7_clear_2 : decode cX7_clear 2 = .ok (.iload_n 1, 1) := by decide +kernel
theorem dX7_clear_3 : decode cX7_clear 3 = .ok (.bipush 8, 2) := by decide +kernel
theorem dX7_clear_5 : decode cX7_clear 5 = .ok (.if_icmp .ge 23, 3) := by decide +kernel
theorem dX7_clear_8 : decode cX7_clear 8 = .ok (.aload_n 0, 1) := by decide +kernel
theorem dX7_clear_9 : decode cX7_clear 9 = .ok (.getfield 18, 3) := by decide +kernel
theorem dX7_clear_12 : decode cX7_clear 12 = .ok (.iload_n 1, 1) := by decide +kernel
theorem dX7_clear_13 : decode cX7_clear 13 = .ok (.iconst 0, 1) := by decide +kernel
theorem dX7_clear_14 : decode cX7_clear 14 = .ok (.bastore, 1) := by decide +kernel
theorem dX7_clear_15 : decode cX7_clear 15 = .ok (.aload_n 0, 1) := by decide +kernel
theorem dX7_clear_16 : decode cX7_clear 16 = .ok (.getfield 22, 3) := by decide +kernel
theorem dX7_clear_19 : decode cX7_clear 19 = .ok (.iload_n 1, 1) := by decide +kernel
theorem dX7_clear_20 : decode cX7_clear 20 = .ok (.iconst 0, 1) := by decide +kernel
theorem dX7_clear_21 : decode cX7_clear 21 = .ok (.bastore, 1) := by decide +kernel
theorem dX7_clear_22 : decode cX7_clear 22 = .ok (.iinc 1 1, 3) := by decide +kernel
theorem dX7_clear_25 : decode cX7_clear 25 = .ok (.goto (-23), 3) := by decide +kernel
theorem dX7_clear_28 : decode cX7_clear 28 = .ok (.aload_n 0, 1) := by decide +kernel
theorem dX7_clear_29 : decode cX7_clear 29 = .ok (.iconst 0, 1) := by decide +kernel
theorem dX7_clear_30 : decode cX7_clear 30 = .ok (.putfield 9, 3) := by decide +kernel
theorem dX7_clear_33 : decode cX7_clear 33 = .ok (.aload_n 0, 1) := by decide +kernel
theorem dX7_clear_34 : decode cX7_clear 34 = .ok (.iconst 0, 1) := by decide +kernel
theorem dX7_clear_35 : decode cX7_clear 35 = .ok (.putfield 15, 3) := by decide +kernel
theorem dX7_clear_38 : decode cX7_clear 38 = .ok (.return_, 1) := by decide +kernel
theorem dX7_running_0 : decode cX7_running 0 = .ok (.aload_n 0, 1) := by decide +kernel
theorem dX7_running_1 : decode cX7_running 1 = .ok (.getfield 9, 3) := by decide +kernel
theorem dX7_running_4 : decode cX7_running 4 = .ok (.aload_n 0, 1) := by decide +kernel
theorem dX7_running_5 : decode cX7_running 5 = .ok (.getfield 15, 3) := by decide +kernel
theorem dX7_running_8 : decode cX7_running 8 = .ok (.isub, 1) := by decide +kernel
theorem dX7_running_9 : decode cX7_running 9 = .ok (.ireturn, 1) := by decide +kernel
theorem dX7_isRunning_0 : decode cX7_isRunning 0 = .ok (.aload_n 0, 1) := by decide +kernel
theorem dX7_isRunning_1 : decode cX7_isRunning 1 = .ok (.getfield 18, 3) := by decide +kernel
theorem dX7_isRunning_4 : decode cX7_isRunning 4 = .ok (.iload_n 1, 1) := by decide +kernel
theorem dX7_isRunning_5 : decode cX7_isRunning 5 = .ok (.baload, 1) := by decide +kernel
theorem dX7_isRunning_6 : decode cX7_isRunning 6 = .ok (.ifCond .eq 16, 3) := by decide +kernel
theorem dX7_isRunning_9 : decode cX7_isRunning 9 = .ok (.aload_n 0, 1) := by decide +kernel
theorem dX7_isRunning_10 : decode cX7_isRunning 10 = .ok (.getfield 22, 3) := by decide +kernel
theorem dX7_isRunning_13 : decode cX7_isRunning 13 = .ok (.iload_n 1, 1) := by decide +kernel
theorem dX7_isRunning_14 : decode cX7_isRunning 14 = .ok (.baload, 1) := by decide +kernel
theorem dX7_isRunning_15 : decode cX7_isRunning 15 = .ok (.ifCond .ne 7, 3) := by decide +kernel
theorem dX7_isRunning_18 : decode cX7_isRunning 18 = .ok (.iconst 1, 1) := by decide +kernel
theorem dX7_isRunning_19 : decode cX7_isRunning 19 = .ok (.goto 4, 3) := by decide +kernel
theorem dX7_isRunning_22 : decode cX7_isRunning 22 = .ok (.iconst 0, 1) := by decide +kernel
theorem dX7_isRunning_23 : decode cX7_isRunning 23 = .ok (.ireturn, 1) := by decide +kernel
theorem dX7_isCandidate_0 : decode cX7_isCandidate 0 = .ok (.iload_n 2, 1) := by decide +kernel
theorem dX7_isCandidate_1 : decode cX7_isCandidate 1 = .ok (.iload_n 1, 1) := by decide +kernel
theorem dX7_isCandidate_2 : decode cX7_isCandidate 2 = .ok (.if_icmp .eq 25, 3) := by decide +kernel
theorem dX7_isCandidate_5 : decode cX7_isCandidate 5 = .ok (.aload_n 0, 1) := by decide +kernel
theorem dX7_isCandidate_6 : decode cX7_isCandidate 6 = .ok (.getfield 18, 3) := by decide +kernel
theorem dX7_isCandidate_9 : decode cX7_isCandidate 9 = .ok (.iload_n 2, 1) := by decide +kernel
theorem dX7_isCandidate_10 : decode cX7_isCandidate 10 = .ok (.baload, 1) := by decide +kernel
theorem dX7_isCandidate_11 : decode cX7_isCandidate 11 = .ok (.ifCond .eq 16, 3) := by decide +kernel
theorem dX7_isCandidate_14 : decode cX7_isCandidate 14 = .ok (.aload_n 0, 1) := by decide +kernel
theorem dX7_isCandidate_15 : decode cX7_isCandidate 15 = .ok (.getfield 22, 3) := by decide +kernel
theorem dX7_isCandidate_18 : decode cX7_isCandidate 18 = .ok (.iload_n 2, 1) := by decide +kernel
theorem dX7_isCandidate_19 : decode cX7_isCandidate 19 = .ok (.baload, 1) := by decide +kernel
theorem dX7_isCandidate_20 : decode cX7_isCandidate 20 = .ok (.ifCond .ne 7, 3) := by decide +kernel
theorem dX7_isCandidate_23 : decode cX7_isCandidate 23 = .ok (.iconst 1, 1) := by decide +kernel
theorem dX7_isCandidate_24 : decode cX7_isCandidate 24 = .ok (.goto 4, 3) := by decide +kernel
theorem dX7_isCandidate_27 : decode cX7_isCandidate 27 = .ok (.iconst 0, 1) := by decide +kernel
theorem dX7_isCandidate_28 : decode cX7_isCandidate 28 = .ok (.ireturn, 1) := by decide +kernel
theorem dX7_candidatesOf_0 : decode cX7_candidatesOf 0 = .ok (.aload_n 0, 1) := by decide +kernel
theorem dX7_candidatesOf_1 : decode cX7_candidatesOf 1 = .ok (.invokevirtual 35, 3) := by decide +kernel
theorem dX7_candidatesOf_4 : decode cX7_candidatesOf 4 = .ok (.aload_n 0, 1) := by decide +kernel
theorem dX7_candidatesOf_5 : decode cX7_candidatesOf 5 = .ok (.iload_n 1, 1) := by decide +kernel
theorem dX7_candidatesOf_6 : decode cX7_candidatesOf 6 = .ok (.invokevirtual 39, 3) := by decide +kernel
theorem dX7_candidatesOf_9 : decode cX7_candidatesOf 9 = .ok (.ifCond .eq 7, 3) := by decide +kernel
theorem dX7_candidatesOf_12 : decode cX7_candidatesOf 12 = .ok (.iconst 1, 1) := by decide +kernel
theorem dX7_candidatesOf_13 : decode cX7_candidatesOf 13 = .ok (.goto 4, 3) := by decide +kernel
theorem dX7_candidatesOf_16 : decode cX7_candidatesOf 16 = .ok (.iconst 0, 1) := by decide +kernel
theorem dX7_candidatesOf_17 : decode cX7_candidatesOf 17 = .ok (.isub, 1) := by decide +kernel
theorem dX7_candidatesOf_18 : decode cX7_candidatesOf 18 = .ok (.ireturn, 1) := by decide +kernel
theorem dX7_writeCandidates_0 : decode cX7_writeCandidates 0 = .ok (.iconst 0, 1) := by decide +kernel
theorem dX7_writeCandidates_1 : decode cX7_writeCandidates 1 = .ok (.istore_n 3, 1) := by decide +kernel
theorem dX7_writeCandidates_2 : decode cX7_writeCandidates 2 = .ok (.iconst 0, 1) := by decide +kernel
theorem dX7_writeCandidates_3 : decode cX7_writeCandidates 3 = .ok (.istore 4, 2) := by decide +kernel
theorem dX7_writeCandidates_5 : decode cX7_writeCandidates 5 = .ok (.iload 4, 2) := by decide +kernel
theorem dX7_writeCandidates_7 : decode cX7_writeCandidates 7 = .ok (.bipush 8, 2) := by decide +kernel
theorem dX7_writeCandidates_9 : decode cX7_writeCandidates 9 = .ok (.if_icmp .ge 27, 3) := by decide +kernel
theorem dX7_writeCandidates_12 : decode cX7_writeCandidates 12 = .ok (.aload_n 0, 1) := by decide +kernel
theorem dX7_writeCandidates_13 : decode cX7_writeCandidates 13 = .ok (.iload_n 1, 1) := by decide +kernel
theorem dX7_writeCandidates_14 : decode cX7_writeCandidates 14 = .ok (.iload 4, 2) := by decide +kernel
theorem dX7_writeCandidates_16 : decode cX7_writeCandidates 16 = .ok (.invokevirtual 43, 3) := by decide +kernel
theorem dX7_writeCandidates_19 : decode cX7_writeCandidates 19 = .ok (.ifCond .eq 11, 3) := by decide +kernel
theorem dX7_writeCandidates_22 : decode cX7_writeCandidates 22 = .ok (.aload_n 2, 1) := by decide +kernel
theorem dX7_writeCandidates_23 : decode cX7_writeCandidates 23 = .ok (.iload_n 3, 1) := by decide +kernel
theorem dX7_writeCandidates_24 : decode cX7_writeCandidates 24 = .ok (.iload 4, 2) := by decide +kernel
theorem dX7_writeCandidates_26 : decode cX7_writeCandidates 26 = .ok (.iastore, 1) := by decide +kernel
theorem dX7_writeCandidates_27 : decode cX7_writeCandidates 27 = .ok (.iinc 3 1, 3) := by decide +kernel
theorem dX7_writeCandidates_30 : decode cX7_writeCandidates 30 = .ok (.iinc 4 1, 3) := by decide +kernel
theorem dX7_writeCandidates_33 : decode cX7_writeCandidates 33 = .ok (.goto (-28), 3) := by decide +kernel
theorem dX7_writeCandidates_36 : decode cX7_writeCandidates 36 = .ok (.iload_n 3, 1) := by decide +kernel
theorem dX7_writeCandidates_37 : decode cX7_writeCandidates 37 = .ok (.ireturn, 1) := by decide +kernel
theorem dX8_init_0 : decode cX8_init 0 = .ok (.aload_n 0, 1) := by decide +kernel
theorem dX8_init_1 : decode cX8_init 1 = .ok (.invokespecial 3, 3) := by decide +kernel
theorem dX8_init_4 : decode cX8_init 4 = .ok (.aload_n 0, 1) := by decide +kernel
theorem dX8_init_5 : decode cX8_init 5 = .ok (.bipush 8, 2) := by decide +kernel
theorem dX8_init_7 : decode cX8_init 7 = .ok (.newarray .int, 2) := by decide +kernel
theorem dX8_init_9 : decode cX8_init 9 = .ok (.putfield 9, 3) := by decide +kernel
theorem dX8_init_12 : decode cX8_init 12 = .ok (.aload_n 0, 1) := by decide +kernel
theorem dX8_init_13 : decode cX8_init 13 = .ok (.bipush 8, 2) := by decide +kernel
theorem dX8_init_15 : decode cX8_init 15 = .ok (.newarray .int, 2) := by decide +kernel
theorem dX8_init_17 : decode cX8_init 17 = .ok (.putfield 15, 3) := by decide +kernel
theorem dX8_init_20 : decode cX8_init 20 = .ok (.aload_n 0, 1) := by decide +kernel
theorem dX8_init_21 : decode cX8_init 21 = .ok (.iconst 0, 1) := by decide +kernel
theorem dX8_init_22 : decode cX8_init 22 = .ok (.putfield 18, 3) := by decide +kernel
theorem dX8_init_25 : decode cX8_init 25 = .ok (.aload_n 0, 1) := by decide +kernel
theorem dX8_init_26 : decode cX8_init 26 = .ok (.iconst 0, 1) := by decide +kernel
theorem dX8_init_27 : decode cX8_init 27 = .ok (.putfield 22, 3) := by decide +kernel
theorem dX8_init_30 : decode cX8_init 30 = .ok (.aload_n 0, 1) := by decide +kernel
theorem dX8_init_31 : decode cX8_init 31 = .ok (.aload_n 1, 1) := by decide +kernel
theorem dX8_init_32 : decode cX8_init 32 = .ok (.putfield 25, 3) := by decide +kernel
theorem dX8_init_35 : decode cX8_init 35 = .ok (.return_, 1) := by decide +kernel
theorem dX8_insert_0 : decode cX8_insert 0 = .ok (.aload_n 0, 1) := by decide +kernel
theorem dX8_insert_1 : decode cX8_insert 1 = .ok (.getfield 18, 3) := by decide +kernel
theorem dX8_insert_4 : decode cX8_insert 4 = .ok (.bipush 8, 2) := by decide +kernel
theorem dX8_insert_6 : decode cX8_insert 6 = .ok (.if_icmp .lt 4, 3) := by decide +kernel
theorem dX8_insert_9 : decode cX8_insert 9 = .ok (.return_, 1) := by decide +kernel
theorem dX8_insert_10 : decode cX8_insert 10 = .ok (.aload_n 0, 1) := by decide +kernel
theorem dX8_insert_11 : decode cX8_insert 11 = .ok (.getfield 25, 3) := by decide +kernel
theorem dX8_insert_14 : decode cX8_insert 14 = .ok (.getfield 29, 3) := by decide +kernel
theorem dX8_insert_17 : decode cX8_insert 17 = .ok (.iload_n 1, 1) := by decide +kernel
theorem dX8_insert_18 : decode cX8_insert 18 = .ok (.iaload, 1) := by decide +kernel
theorem dX8_insert_19 : decode cX8_insert 19 = .ok (.ifCond .ne 7, 3) := by decide +kernel
theorem dX8_insert_22 : decode cX8_insert 22 = .ok (.iconst 1, 1) := by decide +kernel
theorem dX8_insert_23 : decode cX8_insert 23 = .ok (.goto 4, 3) := by decide +kernel
theorem dX8_insert_26 : decode cX8_insert 26 = .ok (.iconst 0, 1) := by decide +kernel
theorem dX8_insert_27 : decode cX8_insert 27 = .ok (.istore_n 2, 1) := by decide +kernel
theorem dX8_insert_28 : decode cX8_insert 28 = .ok (.iload_n 2, 1) := by decide +kernel
theorem dX8_insert_29 : decode cX8_insert 29 = .ok (.ifCond .eq 10, 3) := by decide +kernel
theorem dX8_insert_32 : decode cX8_insert 32 = .ok (.aload_n 0, 1) := by decide +kernel
theorem dX8_insert_33 : decode cX8_insert 33 = .ok (.getfield 22, 3) := by decide +kernel
theorem dX8_insert_36 : decode cX8_insert 36 = .ok (.goto 7, 3) := by decide +kernel
theorem dX8_insert_39 : decode cX8_insert 39 = .ok (.aload_n 0, 1) := by decide +kernel
theorem dX8_insert_40 : decode cX8_insert 40 = .ok (.getfield 18, 3) := by decide +kernel
theorem dX8_insert_43 : decode cX8_insert 43 = .ok (.istore_n 3, 1) := by decide +kernel
theorem dX8_insert_44 : decode cX8_insert 44 = .ok (.aload_n 0, 1) := by decide +kernel
theorem dX8_insert_45 : decode cX8_insert 45 = .ok (.getfield 18, 3) := by decide +kernel
theorem dX8_insert_48 : decode cX8_insert 48 = .ok (.istore 4, 2) := by decide +kernel
theorem dX8_insert_50 : decode cX8_insert 50 = .ok (.iload 4, 2) := by decide +kernel
theorem dX8_insert_52 : decode cX8_insert 52 = .ok (.iload_n 3, 1) := by decide +kernel
theorem dX8_insert_53 : decode cX8_insert 53 = .ok (.if_icmp .le 25, 3) := by decide +kernel
theorem dX8_insert_56 : decode cX8_insert 56 = .ok (.aload_n 0, 1) := by decide +kernel
theorem dX8_insert_57 : decode cX8_insert 57 = .ok (.getfield 9, 3) := by decide +kernel
theorem dX8_insert_60 : decode cX8_insert 60 = .ok (.iload 4, 2) := by decide +kernel
theorem dX8_insert_62 : decode cX8_insert 62 = .ok (.aload_n 0, 1) := by decide +kernel
theorem dX8_insert_63 : decode cX8_insert 63 = .ok (.getfield 9, 3) := by decide +kernel
theorem dX8_insert_66 : decode cX8_insert 66 = .ok (.iload 4, 2) := by decide +kernel
theorem dX8_insert_68 : decode cX8_insert 68 = .ok (.iconst 1, 1) := by decide +kernel
theorem dX8_insert_69 : decode cX8_insert 69 = .ok (.isub, 1) := by decide +kernel
theorem dX8_insert_70 : decode cX8_insert 70 = .ok (.iaload, 1) := by decide +kernel
theorem dX8_insert_71 : decode cX8_insert 71 = .ok (.iastore, 1) := by decide +kernel
theorem dX8_insert_72 : decode cX8_insert 72 = .ok (.iinc 4 (-1), 3) := by decide +kernel
theorem dX8_insert_75 : decode cX8_insert 75 = .ok (.goto (-25), 3) := by decide +kernel
theorem dX8_insert_78 : decode cX8_insert 78 = .ok (.aload_n 0, 1) := by decide +kernel
theorem dX8_insert_79 : decode cX8_insert 79 = .ok (.getfield 9, 3) := by decide +kernel
theorem dX8_insert_82 : decode cX8_insert 82 = .ok (.iload_n 3, 1) := by decide +kernel
theorem dX8_insert_83 : decode cX8_insert 83 = .ok (.iload_n 1, 1) := by decide +kernel
theorem dX8_insert_84 : decode cX8_insert 84 = .ok (.iastore, 1) := by decide +kernel
theorem dX8_insert_85 : decode cX8_insert 85 = .ok (.aload_n 0, 1) := by decide +kernel
theorem dX8_insert_86 : decode cX8_insert 86 = .ok (.dup, 1) := by decide +kernel
theorem dX8_insert_87 : decode cX8_insert 87 = .ok (.getfield 18, 3) := by decide +kernel
theorem dX8_insert_90 : decode cX8_insert 90 = .ok (.iconst 1, 1) := by decide +kernel
theorem dX8_insert_91 : decode cX8_insert 91 = .ok (.iadd, 1) := by decide +kernel
theorem dX8_insert_92 : decode cX8_insert 92 = .ok (.putfield 18, 3) := by decide +kernel
theorem dX8_insert_95 : decode cX8_insert 95 = .ok (.aload_n 0, 1) := by decide +kernel
theorem dX8_insert_96 : decode cX8_insert 96 = .ok (.dup, 1) := by decide +kernel
theorem dX8_insert_97 : decode cX8_insert 97 = .ok (.getfield 22, 3) := by decide +kernel
theorem dX8_insert_100 : decode cX8_insert 100 = .ok (.iload_n 2, 1) := by decide +kernel
theorem dX8_insert_101 : decode cX8_insert 101 = .ok (.ifCond .eq 7, 3) := by decide +kernel
theorem dX8_insert_104 : decode cX8_insert 104 = .ok (.iconst 1, 1) := by decide +kernel
theorem dX8_insert_105 : decode cX8_insert 105 = .ok (.goto 4, 3) := by decide +kernel
theorem dX8_insert_108 : decode cX8_insert 108 = .ok (.iconst 0, 1) := by decide +kernel
theorem dX8_insert_109 : decode cX8_insert 109 = .ok (.iadd, 1) := by decide +kernel
theorem dX8_insert_110 : decode cX8_insert 110 = .ok (.putfield 22, 3) := by decide +kernel
theorem dX8_insert_113 : decode cX8_insert 113 = .ok (.return_, 1) := by decide +kernel
theorem dX8_clear_0 : decode cX8_clear 0 = .ok (.aload_n 0, 1) := by decide +kernel
theorem dX8_clear_1 : decode cX8_clear 1 = .ok (.iconst 0, 1) := by decide +kernel
theorem dX8_clear_2 : decode cX8_clear 2 = .ok (.putfield 18, 3) := by decide +kernel
theorem dX8_clear_5 : decode cX8_clear 5 = .ok (.aload_n 0, 1) := by decide +kernel
theorem dX8_clear_6 : decode cX8_clear 6 = .ok (.iconst 0, 1) := by decide +kernel
theorem dX8_clear_7 : decode cX8_clear 7 = .ok (.putfield 22, 3) := by decide +kernel
theorem dX8_clear_10 : decode cX8_clear 10 = .ok (.return_, 1) := by decide +kernel
theorem dX8_placeOf_0 : decode cX8_placeOf 0 = .ok (.iconst 0, 1) := by decide +kernel
theorem dX8_placeOf_1 : decode cX8_placeOf 1 = .ok (.istore_n 2, 1) := by decide +kernel
theorem dX8_placeOf_2 : decode cX8_placeOf 2 = .ok (.iload_n 2, 1) := by decide +kernel
theorem dX8_placeOf_3 : decode cX8_placeOf 3 = .ok (.aload_n 0, 1) := by decide +kernel
theorem dX8_placeOf_4 : decode cX8_placeOf 4 = .ok (.getfield 18, 3) := by decide +kernel
theorem dX8_placeOf_7 : decode cX8_placeOf 7 = .ok (.if_icmp .ge 21, 3) := by decide +kernel
theorem dX8_placeOf_10 : decode cX8_placeOf 10 = .ok (.aload_n 0, 1) := by decide +kernel
theorem dX8_placeOf_11 : decode cX8_placeOf 11 = .ok (.getfield 9, 3) := by decide +kernel
theorem dX8_placeOf_14 : decode cX8_placeOf 14 = .ok (.iload_n 2, 1) := by decide +kernel
theorem dX8_placeOf_15 : decode cX8_placeOf 15 = .ok (.iaload, 1) := by decide +kernel
theorem dX8_placeOf_16 : decode cX8_placeOf 16 = .ok (.iload_n 1, 1) := by decide +kernel
theorem dX8_placeOf_17 : decode cX8_placeOf 17 = .ok (.if_icmp .ne 5, 3) := by decide +kernel
theorem dX8_placeOf_20 : decode cX8_placeOf 20 = .ok (.iload_n 2, 1) := by decide +kernel
theorem dX8_placeOf_21 : decode cX8_placeOf 21 = .ok (.ireturn, 1) := by decide +kernel
theorem dX8_placeOf_22 : decode cX8_placeOf 22 = .ok (.iinc 2 1, 3) := by decide +kernel
theorem dX8_placeOf_25 : decode cX8_placeOf 25 = .ok (.goto (-23), 3) := by decide +kernel
theorem dX8_placeOf_28 : decode cX8_placeOf 28 = .ok (.iconst (-1), 1) := by decide +kernel
theorem dX8_placeOf_29 : decode cX8_placeOf 29 = .ok (.ireturn, 1) := by decide +kernel
theorem dX8_isOfHalf_0 : decode cX8_isOfHalf 0 = .ok (.aload_n 0, 1) := by decide +kernel
theorem dX8_isOfHalf_1 : decode cX8_isOfHalf 1 = .ok (.getfield 25, 3) := by decide +kernel
theorem dX8_isOfHalf_4 : decode cX8_isOfHalf 4 = .ok (.getfield 29, 3) := by decide +kernel
theorem dX8_isOfHalf_7 : decode cX8_isOfHalf 7 = .ok (.iload_n 1, 1) := by decide +kernel
theorem dX8_isOfHalf_8 : decode cX8_isOfHalf 8 = .ok (.iaload, 1) := by decide +kernel
theorem dX8_isOfHalf_9 : decode cX8_isOfHalf 9 = .ok (.ifCond .ne 19, 3) := by decide +kernel
theorem dX8_isOfHalf_12 : decode cX8_isOfHalf 12 = .ok (.iload_n 2, 1) := by decide +kernel
theorem dX8_isOfHalf_13 : decode cX8_isOfHalf 13 = .ok (.aload_n 0, 1) := by decide +kernel
theorem dX8_isOfHalf_14 : decode cX8_isOfHalf 14 = .ok (.getfield 22, 3) := by decide +kernel
theorem dX8_isOfHalf_17 : decode cX8_isOfHalf 17 = .ok (.if_icmp .ge 7, 3) := by decide +kernel
theorem dX8_isOfHalf_20 : decode cX8_isOfHalf 20 = .ok (.iconst 1, 1) := by decide +kernel
theorem dX8_isOfHalf_21 : decode cX8_isOfHalf 21 = .ok (.goto 20, 3) := by decide +kernel
theorem dX8_isOfHalf_24 : decode cX8_isOfHalf 24 = .ok (.iconst 0, 1) := by decide +kernel
theorem dX8_isOfHalf_25 : decode cX8_isOfHalf 25 = .ok (.goto 16, 3) := by decide +kernel
theorem dX8_isOfHalf_28 : decode cX8_isOfHalf 28 = .ok (.iload_n 2, 1) := by decide +kernel
theorem dX8_isOfHalf_29 : decode cX8_isOfHalf 29 = .ok (.aload_n 0, 1) := by decide +kernel
theorem dX8_isOfHalf_30 : decode cX8_isOfHalf 30 = .ok (.getfield 22, 3) := by decide +kernel
theorem dX8_isOfHalf_33 : decode cX8_isOfHalf 33 = .ok (.if_icmp .lt 7, 3) := by decide +kernel
theorem dX8_isOfHalf_36 : decode cX8_isOfHalf 36 = .ok (.iconst 1, 1) := by decide +kernel
theorem dX8_isOfHalf_37 : decode cX8_isOfHalf 37 = .ok (.goto 4, 3) := by decide +kernel
theorem dX8_isOfHalf_40 : decode cX8_isOfHalf 40 = .ok (.iconst 0, 1) := by decide +kernel
theorem dX8_isOfHalf_41 : decode cX8_isOfHalf 41 = .ok (.ireturn, 1) := by decide +kernel
theorem dX8_shift_0 : decode cX8_shift 0 = .ok (.aload_n 0, 1) := by decide +kernel
theorem dX8_shift_1 : decode cX8_shift 1 = .ok (.iload_n 1, 1) := by decide +kernel
theorem dX8_shift_2 : decode cX8_shift 2 = .ok (.iload_n 2, 1) := by decide +kernel
theorem dX8_shift_3 : decode cX8_shift 3 = .ok (.invokevirtual 38, 3) := by decide +kernel
theorem dX8_shift_6 : decode cX8_shift 6 = .ok (.iconst 0, 1) := by decide +kernel
theorem dX8_shift_7 : decode cX8_shift 7 = .ok (.istore_n 3, 1) := by decide +kernel
theorem dX8_shift_8 : decode cX8_shift 8 = .ok (.iload_n 3, 1) := by decide +kernel
theorem dX8_shift_9 : decode cX8_shift 9 = .ok (.aload_n 0, 1) := by decide +kernel
theorem dX8_shift_10 : decode cX8_shift 10 = .ok (.getfield 18, 3) := by decide +kernel
theorem dX8_shift_13 : decode cX8_shift 13 = .ok (.if_icmp .ge 21, 3) := by decide +kernel
theorem dX8_shift_16 : decode cX8_shift 16 = .ok (.aload_n 0, 1) := by decide +kernel
theorem dX8_shift_17 : decode cX8_shift 17 = .ok (.getfield 9, 3) := by decide +kernel
theorem dX8_shift_20 : decode cX8_shift 20 = .ok (.iload_n 3, 1) := by decide +kernel
theorem dX8_shift_21 : decode cX8_shift 21 = .ok (.aload_n 0, 1) := by decide +kernel
theorem dX8_shift_22 : decode cX8_shift 22 = .ok (.getfield 15, 3) := by decide +kernel
theorem dX8_shift_25 : decode cX8_shift 25 = .ok (.iload_n 3, 1) := by decide +kernel
theorem dX8_shift_26 : decode cX8_shift 26 = .ok (.iaload, 1) := by decide +kernel
theorem dX8_shift_27 : decode cX8_shift 27 = .ok (.iastore, 1) := by decide +kernel
theorem dX8_shift_28 : decode cX8_shift 28 = .ok (.iinc 3 1, 3) := by decide +kernel
theorem dX8_shift_31 : decode cX8_shift 31 = .ok (.goto (-23), 3) := by decide +kernel
theorem dX8_shift_34 : decode cX8_shift 34 = .ok (.return_, 1) := by decide +kernel
theorem dX8_delay_0 : decode cX8_delay 0 = .ok (.aload_n 0, 1) := by decide +kernel
theorem dX8_delay_1 : decode cX8_delay 1 = .ok (.aload_n 0, 1) := by decide +kernel
theorem dX8_delay_2 : decode cX8_delay 2 = .ok (.getfield 9, 3) := by decide +kernel
theorem dX8_delay_5 : decode cX8_delay 5 = .ok (.invokevirtual 42, 3) := by decide +kernel
theorem dX8_delay_8 : decode cX8_delay 8 = .ok (.ireturn, 1) := by decide +kernel
theorem dX8_bestShift_0 : decode cX8_bestShift 0 = .ok (.iconst (-1), 1) := by decide +kernel
theorem dX8_bestShift_1 : decode cX8_bestShift 1 = .ok (.istore_n 1, 1) := by decide +kernel
theorem dX8_bestShift_2 : decode cX8_bestShift 2 = .ok (.aload_n 0, 1) := by decide +kernel
theorem dX8_bestShift_3 : decode cX8_bestShift 3 = .ok (.invokevirtual 46, 3) := by decide +kernel
theorem dX8_bestShift_6 : decode cX8_bestShift 6 = .ok (.istore_n 2, 1) := by decide +kernel
theorem dX8_bestShift_7 : decode cX8_bestShift 7 = .ok (.iconst 0, 1) := by decide +kernel
theorem dX8_bestShift_8 : decode cX8_bestShift 8 = .ok (.istore_n 3, 1) := by decide +kernel
theorem dX8_bestShift_9 : decode cX8_bestShift 9 = .ok (.iload_n 3, 1) := by decide +kernel
theorem dX8_bestShift_10 : decode cX8_bestShift 10 = .ok (.bipush 8, 2) := by decide +kernel
theorem dX8_bestShift_12 : decode cX8_bestShift 12 = .ok (.if_icmp .ge 79, 3) := by decide +kernel
theorem dX8_bestShift_15 : decode cX8_bestShift 15 = .ok (.iconst 0, 1) := by decide +kernel
theorem dX8_bestShift_16 : decode cX8_bestShift 16 = .ok (.istore 4, 2) := by decide +kernel
theorem dX8_bestShift_18 : decode cX8_bestShift 18 = .ok (.aload_n 0, 1) := by decide +kernel
theorem dX8_bestShift_19 : decode cX8_bestShift 19 = .ok (.getfield 25, 3) := by decide +kernel
theorem dX8_bestShift_22 : decode cX8_bestShift 22 = .ok (.getfield 50, 3) := by decide +kernel
theorem dX8_bestShift_25 : decode cX8_bestShift 25 = .ok (.iload_n 3, 1) := by decide +kernel
theorem dX8_bestShift_26 : decode cX8_bestShift 26 = .ok (.baload, 1) := by decide +kernel
theorem dX8_bestShift_27 : decode cX8_bestShift 27 = .ok (.ifCond .eq 58, 3) := by decide +kernel
theorem dX8_bestShift_30 : decode cX8_bestShift 30 = .ok (.iload 4, 2) := by decide +kernel
theorem dX8_bestShift_32 : decode cX8_bestShift 32 = .ok (.aload_n 0, 1) := by decide +kernel
theorem dX8_bestShift_33 : decode cX8_bestShift 33 = .ok (.getfield 18, 3) := by decide +kernel
theorem dX8_bestShift_36 : decode cX8_bestShift 36 = .ok (.if_icmp .ge 49, 3) := by decide +kernel
theorem dX8_bestShift_39 : decode cX8_bestShift 39 = .ok (.aload_n 0, 1) := by decide +kernel
theorem dX8_bestShift_40 : decode cX8_bestShift 40 = .ok (.iload_n 3, 1) := by decide +kernel
theorem dX8_bestShift_41 : decode cX8_bestShift 41 = .ok (.iload 4, 2) := by decide +kernel
theorem dX8_bestShift_43 : decode cX8_bestShift 43 = .ok (.invokevirtual 54, 3) := by decide +kernel
theorem dX8_bestShift_46 : decode cX8_bestShift 46 = .ok (.ifCond .eq 13, 3) := by decide +kernel
theorem dX8_bestShift_49 : decode cX8_bestShift 49 = .ok (.aload_n 0, 1) := by decide +kernel
theorem dX8_bestShift_50 : decode cX8_bestShift 50 = .ok (.iload_n 3, 1) := by decide +kernel
theorem dX8_bestShift_51 : decode cX8_bestShift 51 = .ok (.iload 4, 2) := by decide +kernel
theorem dX8_bestShift_53 : decode cX8_bestShift 53 = .ok (.invokevirtual 58, 3) := by decide +kernel
theorem dX8_bestShift_56 : decode cX8_bestShift 56 = .ok (.goto 4, 3) := by decide +kernel
theorem dX8_bestShift_59 : decode cX8_bestShift 59 = .ok (.iload_n 2, 1) := by decide +kernel
theorem dX8_bestShift_60 : decode cX8_bestShift 60 = .ok (.istore 5, 2) := by decide +kernel
theorem dX8_bestShift_62 : decode cX8_bestShift 62 = .ok (.iload 5, 2) := by decide +kernel
theorem dX8_bestShift_64 : decode cX8_bestShift 64 = .ok (.iload_n 2, 1) := by decide +kernel
theorem dX8_bestShift_65 : decode cX8_bestShift 65 = .ok (.if_icmp .ge 14, 3) := by decide +kernel
theorem dX8_bestShift_68 : decode cX8_bestShift 68 = .ok (.iload 5, 2) := by decide +kernel
theorem dX8_bestShift_70 : decode cX8_bestShift 70 = .ok (.istore_n 2, 1) := by decide +kernel
theorem dX8_bestShift_71 : decode cX8_bestShift 71 = .ok (.bipush 100, 2) := by decide +kernel
theorem dX8_bestShift_73 : decode cX8_bestShift 73 = .ok (.iload_n 3, 1) := by decide +kernel
theorem dX8_bestShift_74 : decode cX8_bestShift 74 = .ok (.imul, 1) := by decide +kernel
theorem dX8_bestShift_75 : decode cX8_bestShift 75 = .ok (.iload 4, 2) := by decide +kernel
theorem dX8_bestShift_77 : decode cX8_bestShift 77 = .ok (.iadd, 1) := by decide +kernel
theorem dX8_bestShift_78 : decode cX8_bestShift 78 = .ok (.istore_n 1, 1) := by decide +kernel
theorem dX8_bestShift_79 : decode cX8_bestShift 79 = .ok (.iinc 4 1, 3) := by decide +kernel
theorem dX8_bestShift_82 : decode cX8_bestShift 82 = .ok (.goto (-64), 3) := by decide +kernel
theorem dX8_bestShift_85 : decode cX8_bestShift 85 = .ok (.iinc 3 1, 3) := by decide +kernel
theorem dX8_bestShift_88 : decode cX8_bestShift 88 = .ok (.goto (-79), 3) := by decide +kernel
theorem dX8_bestShift_91 : decode cX8_bestShift 91 = .ok (.iload_n 1, 1) := by decide +kernel
theorem dX8_bestShift_92 : decode cX8_bestShift 92 = .ok (.ireturn, 1) := by decide +kernel
theorem dX8_delayWith_0 : decode cX8_delayWith 0 = .ok (.aload_n 0, 1) := by decide +kernel
theorem dX8_delayWith_1 : decode cX8_delayWith 1 = .ok (.iload_n 1, 1) := by decide +kernel
theorem dX8_delayWith_2 : decode cX8_delayWith 2 = .ok (.iload_n 2, 1) := by decide +kernel
theorem dX8_delayWith_3 : decode cX8_delayWith 3 = .ok (.invokevirtual 38, 3) := by decide +kernel
theorem dX8_delayWith_6 : decode cX8_delayWith 6 = .ok (.aload_n 0, 1) := by decide +kernel
theorem dX8_delayWith_7 : decode cX8_delayWith 7 = .ok (.aload_n 0, 1) := by decide +kernel
theorem dX8_delayWith_8 : decode cX8_delayWith 8 = .ok (.getfield 15, 3) := by decide +kernel
theorem dX8_delayWith_11 : decode cX8_delayWith 11 = .ok (.invokevirtual 42, 3) := by decide +kernel
theorem dX8_delayWith_14 : decode cX8_delayWith 14 = .ok (.ireturn, 1) := by decide +kernel
theorem dX8_writeTrial_0 : decode cX8_writeTrial 0 = .ok (.iconst 0, 1) := by decide +kernel
theorem dX8_writeTrial_1 : decode cX8_writeTrial 1 = .ok (.istore_n 3, 1) := by decide +kernel
theorem dX8_writeTrial_2 : decode cX8_writeTrial 2 = .ok (.iconst 0, 1) := by decide +kernel
theorem dX8_writeTrial_3 : decode cX8_writeTrial 3 = .ok (.istore 4, 2) := by decide +kernel
theorem dX8_writeTrial_5 : decode cX8_writeTrial 5 = .ok (.iload 4, 2) := by decide +kernel
theorem dX8_writeTrial_7 : decode cX8_writeTrial 7 = .ok (.aload_n 0, 1) := by decide +kernel
theorem dX8_writeTrial_8 : decode cX8_writeTrial 8 = .ok (.getfield 18, 3) := by decide +kernel
theorem dX8_writeTrial_11 : decode cX8_writeTrial 11 = .ok (.if_icmp .ge 75, 3) := by decide +kernel
theorem dX8_writeTrial_14 : decode cX8_writeTrial 14 = .ok (.iload 4, 2) := by decide +kernel
theorem dX8_writeTrial_16 : decode cX8_writeTrial 16 = .ok (.iload_n 2, 1) := by decide +kernel
theorem dX8_writeTrial_17 : decode cX8_writeTrial 17 = .ok (.if_icmp .ne 14, 3) := by decide +kernel
theorem dX8_writeTrial_20 : decode cX8_writeTrial 20 = .ok (.aload_n 0, 1) := by decide +kernel
theorem dX8_writeTrial_21 : decode cX8_writeTrial 21 = .ok (.getfield 15, 3) := by decide +kernel
theorem dX8_writeTrial_24 : decode cX8_writeTrial 24 = .ok (.iload 4, 2) := by decide +kernel
theorem dX8_writeTrial_26 : decode cX8_writeTrial 26 = .ok (.iload_n 1, 1) := by decide +kernel
theorem dX8_writeTrial_27 : decode cX8_writeTrial 27 = .ok (.iastore, 1) := by decide +kernel
theorem dX8_writeTrial_28 : decode cX8_writeTrial 28 = .ok (.goto 52, 3) := by decide +kernel
theorem dX8_writeTrial_31 : decode cX8_writeTrial 31 = .ok (.iload_n 3, 1) := by decide +kernel
theorem dX8_writeTrial_32 : decode cX8_writeTrial 32 = .ok (.aload_n 0, 1) := by decide +kernel
theorem dX8_writeTrial_33 : decode cX8_writeTrial 33 = .ok (.getfield 18, 3) := by decide +kernel
theorem dX8_writeTrial_36 : decode cX8_writeTrial 36 = .ok (.if_icmp .ge 16, 3) := by decide +kernel
theorem dX8_writeTrial_39 : decode cX8_writeTrial 39 = .ok (.aload_n 0, 1) := by decide +kernel
theorem dX8_writeTrial_40 : decode cX8_writeTrial 40 = .ok (.getfield 9, 3) := by decide +kernel
theorem dX8_writeTrial_43 : decode cX8_writeTrial 43 = .ok (.iload_n 3, 1) := by decide +kernel
theorem dX8_writeTrial_44 : decode cX8_writeTrial 44 = .ok (.iaload, 1) := by decide +kernel
theorem dX8_writeTrial_45 : decode cX8_writeTrial 45 = .ok (.iload_n 1, 1) := by decide +kernel
theorem dX8_writeTrial_46 : decode cX8_writeTrial 46 = .ok (.if_icmp .ne 6, 3) := by decide +kernel
theorem dX8_writeTrial_49 : decode cX8_writeTrial 49 = .ok (.iinc 3 1, 3) := by decide +kernel
theorem dX8_writeTrial_52 : decode cX8_writeTrial 52 = .ok (.aload_n 0, 1) := by decide +kernel
theorem dX8_writeTrial_53 : decode cX8_writeTrial 53 = .ok (.getfield 15, 3) := by decide +kernel
theorem dX8_writeTrial_56 : decode cX8_writeTrial 56 = .ok (.iload 4, 2) := by decide +kernel
theorem dX8_writeTrial_58 : decode cX8_writeTrial 58 = .ok (.iload_n 3, 1) := by decide +kernel
theorem dX8_writeTrial_59 : decode cX8_writeTrial 59 = .ok (.aload_n 0, 1) := by decide +kernel
theorem dX8_writeTrial_60 : decode cX8_writeTrial 60 = .ok (.getfield 18, 3) := by decide +kernel
theorem dX8_writeTrial_63 : decode cX8_writeTrial 63 = .ok (.if_icmp .ge 12, 3) := by decide +kernel
theorem dX8_writeTrial_66 : decode cX8_writeTrial 66 = .ok (.aload_n 0, 1) := by decide +kernel
theorem dX8_writeTrial_67 : decode cX8_writeTrial 67 = .ok (.getfield 9, 3) := by decide +kernel
theorem dX8_writeTrial_70 : decode cX8_writeTrial 70 = .ok (.iload_n 3, 1) := by decide +kernel
theorem dX8_writeTrial_71 : decode cX8_writeTrial 71 = .ok (.iaload, 1) := by decide +kernel
theorem dX8_writeTrial_72 : decode cX8_writeTrial 72 = .ok (.goto 4, 3) := by decide +kernel
theorem dX8_writeTrial_75 : decode cX8_writeTrial 75 = .ok (.iload_n 1, 1) := by decide +kernel
theorem dX8_writeTrial_76 : decode cX8_writeTrial 76 = .ok (.iastore, 1) := by decide +kernel
theorem dX8_writeTrial_77 : decode cX8_writeTrial 77 = .ok (.iinc 3 1, 3) := by decide +kernel
theorem dX8_writeTrial_80 : decode cX8_writeTrial 80 = .ok (.iinc 4 1, 3) := by decide +kernel
theorem dX8_writeTrial_83 : decode cX8_writeTrial 83 = .ok (.goto (-78), 3) := by decide +kernel
theorem dX8_writeTrial_86 : decode cX8_writeTrial 86 = .ok (.return_, 1) := by decide +kernel
theorem dX8_delayOf_0 : decode cX8_delayOf 0 = .ok (.iconst 0, 1) := by decide +kernel
theorem dX8_delayOf_1 : decode cX8_delayOf 1 = .ok (.istore_n 2, 1) := by decide +kernel
theorem dX8_delayOf_2 : decode cX8_delayOf 2 = .ok (.iconst 1, 1) := by decide +kernel
theorem dX8_delayOf_3 : decode cX8_delayOf 3 = .ok (.istore_n 3, 1) := by decide +kernel
theorem dX8_delayOf_4 : decode cX8_delayOf 4 = .ok (.iload_n 3, 1) := by decide +kernel
theorem dX8_delayOf_5 : decode cX8_delayOf 5 = .ok (.aload_n 0, 1) := by decide +kernel
theorem dX8_delayOf_6 : decode cX8_delayOf 6 = .ok (.getfield 18, 3) := by decide +kernel
theorem dX8_delayOf_9 : decode cX8_delayOf 9 = .ok (.if_icmp .ge 48, 3) := by decide +kernel
theorem dX8_delayOf_12 : decode cX8_delayOf 12 = .ok (.aload_n 0, 1) := by decide +kernel
theorem dX8_delayOf_13 : decode cX8_delayOf 13 = .ok (.getfield 25, 3) := by decide +kernel
theorem dX8_delayOf_16 : decode cX8_delayOf 16 = .ok (.getfield 62, 3) := by decide +kernel
theorem dX8_delayOf_19 : decode cX8_delayOf 19 = .ok (.aload_n 1, 1) := by decide +kernel
theorem dX8_delayOf_20 : decode cX8_delayOf 20 = .ok (.iload_n 3, 1) := by decide +kernel
theorem dX8_delayOf_21 : decode cX8_delayOf 21 = .ok (.iconst 1, 1) := by decide +kernel
theorem dX8_delayOf_22 : decode cX8_delayOf 22 = .ok (.isub, 1) := by decide +kernel
theorem dX8_delayOf_23 : decode cX8_delayOf 23 = .ok (.iaload, 1) := by decide +kernel
theorem dX8_delayOf_24 : decode cX8_delayOf 24 = .ok (.iaload, 1) := by decide +kernel
theorem dX8_delayOf_25 : decode cX8_delayOf 25 = .ok (.aload_n 0, 1) := by decide +kernel
theorem dX8_delayOf_26 : decode cX8_delayOf 26 = .ok (.getfield 25, 3) := by decide +kernel
theorem dX8_delayOf_29 : decode cX8_delayOf 29 = .ok (.getfield 62, 3) := by decide +kernel
theorem dX8_delayOf_32 : decode cX8_delayOf 32 = .ok (.aload_n 1, 1) := by decide +kernel
theorem dX8_delayOf_33 : decode cX8_delayOf 33 = .ok (.iload_n 3, 1) := by decide +kernel
theorem dX8_delayOf_34 : decode cX8_delayOf 34 = .ok (.iaload, 1) := by decide +kernel
theorem dX8_delayOf_35 : decode cX8_delayOf 35 = .ok (.iaload, 1) := by decide +kernel
theorem dX8_delayOf_36 : decode cX8_delayOf 36 = .ok (.iadd, 1) := by decide +kernel
theorem dX8_delayOf_37 : decode cX8_delayOf 37 = .ok (.istore 4, 2) := by decide +kernel
theorem dX8_delayOf_39 : decode cX8_delayOf 39 = .ok (.iload_n 2, 1) := by decide +kernel
theorem dX8_delayOf_40 : decode cX8_delayOf 40 = .ok (.iconst 0, 1) := by decide +kernel
theorem dX8_delayOf_41 : decode cX8_delayOf 41 = .ok (.iload 4, 2) := by decide +kernel
theorem dX8_delayOf_43 : decode cX8_delayOf 43 = .ok (.bipush 6, 2) := by decide +kernel
theorem dX8_delayOf_45 : decode cX8_delayOf 45 = .ok (.isub, 1) := by decide +kernel
theorem dX8_delayOf_46 : decode cX8_delayOf 46 = .ok (.invokestatic 65, 3) := by decide +kernel
theorem dX8_delayOf_49 : decode cX8_delayOf 49 = .ok (.iadd, 1) := by decide +kernel
theorem dX8_delayOf_50 : decode cX8_delayOf 50 = .ok (.istore_n 2, 1) := by decide +kernel
theorem dX8_delayOf_51 : decode cX8_delayOf 51 = .ok (.iinc 3 1, 3) := by decide +kernel
theorem dX8_delayOf_54 : decode cX8_delayOf 54 = .ok (.goto (-50), 3) := by decide +kernel
theorem dX8_delayOf_57 : decode cX8_delayOf 57 = .ok (.iload_n 2, 1) := by decide +kernel
theorem dX8_delayOf_58 : decode cX8_delayOf 58 = .ok (.ireturn, 1) := by decide +kernel
theorem dX9_init_0 : decode cX9_init 0 = .ok (.aload_n 0, 1) := by decide +kernel
theorem dX9_init_1 : decode cX9_init 1 = .ok (.invokespecial 1, 3) := by decide +kernel
theorem dX9_init_4 : decode cX9_init 4 = .ok (.new 7, 3) := by decide +kernel
theorem dX9_init_7 : decode cX9_init 7 = .ok (.dup, 1) := by decide +kernel
theorem dX9_init_8 : decode cX9_init 8 = .ok (.invokespecial 9, 3) := by decide +kernel
theorem dX9_init_11 : decode cX9_init 11 = .ok (.astore_n 1, 1) := by decide +kernel
theorem dX9_init_12 : decode cX9_init 12 = .ok (.new 10, 3) := by decide +kernel
theorem dX9_init_15 : decode cX9_init 15 = .ok (.dup, 1) := by decide +kernel
theorem dX9_init_16 : decode cX9_init 16 = .ok (.invokespecial 12, 3) := by decide +kernel
theorem dX9_init_19 : decode cX9_init 19 = .ok (.astore_n 2, 1) := by decide +kernel
theorem dX9_init_20 : decode cX9_init 20 = .ok (.new 13, 3) := by decide +kernel
theorem dX9_init_23 : decode cX9_init 23 = .ok (.dup, 1) := by decide +kernel
theorem dX9_init_24 : decode cX9_init 24 = .ok (.aload_n 2, 1) := by decide +kernel
theorem dX9_init_25 : decode cX9_init 25 = .ok (.invokespecial 15, 3) := by decide +kernel
theorem dX9_init_28 : decode cX9_init 28 = .ok (.astore_n 3, 1) := by decide +kernel
theorem dX9_init_29 : decode cX9_init 29 = .ok (.new 18, 3) := by decide +kernel
theorem dX9_init_32 : decode cX9_init 32 = .ok (.dup, 1) := by decide +kernel
theorem dX9_init_33 : decode cX9_init 33 = .ok (.aload_n 2, 1) := by decide +kernel
theorem dX9_init_34 : decode cX9_init 34 = .ok (.invokespecial 20, 3) := by decide +kernel
theorem dX9_init_37 : decode cX9_init 37 = .ok (.astore 4, 2) := by decide +kernel
theorem dX9_init_39 : decode cX9_init 39 = .ok (.new 21, 3) := by decide +kernel
theorem dX9_init_42 : decode cX9_init 42 = .ok (.dup, 1) := by decide +kernel
theorem dX9_init_43 : decode cX9_init 43 = .ok (.aload_n 1, 1) := by decide +kernel
theorem dX9_init_44 : decode cX9_init 44 = .ok (.aload_n 2, 1) := by decide +kernel
theorem dX9_init_45 : decode cX9_init 45 = .ok (.aload 4, 2) := by decide +kernel
theorem dX9_init_47 : decode cX9_init 47 = .ok (.invokespecial 23, 3) := by decide +kernel
theorem dX9_init_50 : decode cX9_init 50 = .ok (.astore 5, 2) := by decide +kernel
theorem dX9_init_52 : decode cX9_init 52 = .ok (.new 26, 3) := by decide +kernel
theorem dX9_init_55 : decode cX9_init 55 = .ok (.dup, 1) := by decide +kernel
theorem dX9_init_56 : decode cX9_init 56 = .ok (.aload_n 2, 1) := by decide +kernel
theorem dX9_init_57 : decode cX9_init 57 = .ok (.invokespecial 28, 3) := by decide +kernel
theorem dX9_init_60 : decode cX9_init 60 = .ok (.astore 6, 2) := by decide +kernel
theorem dX9_init_62 : decode cX9_init 62 = .ok (.aload_n 0, 1) := by decide +kernel
theorem dX9_init_63 : decode cX9_init 63 = .ok (.new 29, 3) := by decide +kernel
theorem dX9_init_66 : decode cX9_init 66 = .ok (.dup, 1) := by decide +kernel
theorem dX9_init_67 : decode cX9_init 67 = .ok (.invokespecial 31, 3) := by decide +kernel
theorem dX9_init_70 : decode cX9_init 70 = .ok (.putfield 32, 3) := by decide +kernel
theorem dX9_init_73 : decode cX9_init 73 = .ok (.aload_n 0, 1) := by decide +kernel
theorem dX9_init_74 : decode cX9_init 74 = .ok (.aload_n 1, 1) := by decide +kernel
theorem dX9_init_75 : decode cX9_init 75 = .ok (.putfield 38, 3) := by decide +kernel
theorem dX9_init_78 : decode cX9_init 78 = .ok (.aload_n 0, 1) := by decide +kernel
theorem dX9_init_79 : decode cX9_init 79 = .ok (.aload_n 2, 1) := by decide +kernel
theorem dX9_init_80 : decode cX9_init 80 = .ok (.putfield 42, 3) := by decide +kernel
theorem dX9_init_83 : decode cX9_init 83 = .ok (.aload_n 0, 1) := by decide +kernel
theorem dX9_init_84 : decode cX9_init 84 = .ok (.aload_n 3, 1) := by decide +kernel
theorem dX9_init_85 : decode cX9_init 85 = .ok (.putfield 46, 3) := by decide +kernel
theorem dX9_init_88 : decode cX9_init 88 = .ok (.aload_n 0, 1) := by decide +kernel
theorem dX9_init_89 : decode cX9_init 89 = .ok (.aload 4, 2) := by decide +kernel
theorem dX9_init_91 : decode cX9_init 91 = .ok (.putfield 50, 3) := by decide +kernel
theorem dX9_init_94 : decode cX9_init 94 = .ok (.aload_n 0, 1) := by decide +kernel
theorem dX9_init_95 : decode cX9_init 95 = .ok (.aload 5, 2) := by decide +kernel
theorem dX9_init_97 : decode cX9_init 97 = .ok (.putfield 54, 3) := by decide +kernel
theorem dX9_init_100 : decode cX9_init 100 = .ok (.aload_n 0, 1) := by decide +kernel
theorem dX9_init_101 : decode cX9_init 101 = .ok (.aload 6, 2) := by decide +kernel
theorem dX9_init_103 : decode cX9_init 103 = .ok (.putfield 58, 3) := by decide +kernel
theorem dX9_init_106 : decode cX9_init 106 = .ok (.aload_n 0, 1) := by decide +kernel
theorem dX9_init_107 : decode cX9_init 107 = .ok (.new 62, 3) := by decide +kernel
theorem dX9_init_110 : decode cX9_init 110 = .ok (.dup, 1) := by decide +kernel
theorem dX9_init_111 : decode cX9_init 111 = .ok (.aload_n 2, 1) := by decide +kernel
theorem dX9_init_112 : decode cX9_init 112 = .ok (.aload_n 3, 1) := by decide +kernel
theorem dX9_init_113 : decode cX9_init 113 = .ok (.aload 5, 2) := by decide +kernel
theorem dX9_init_115 : decode cX9_init 115 = .ok (.aload 6, 2) := by decide +kernel
theorem dX9_init_117 : decode cX9_init 117 = .ok (.invokespecial 64, 3) := by decide +kernel
theorem dX9_init_120 : decode cX9_init 120 = .ok (.putfield 67, 3) := by decide +kernel
theorem dX9_init_123 : decode cX9_init 123 = .ok (.aload_n 0, 1) := by decide +kernel
theorem dX9_init_124 : decode cX9_init 124 = .ok (.new 71, 3) := by decide +kernel
theorem dX9_init_127 : decode cX9_init 127 = .ok (.dup, 1) := by decide +kernel
theorem dX9_init_128 : decode cX9_init 128 = .ok (.aload_n 1, 1) := by decide +kernel
theorem dX9_init_129 : decode cX9_init 129 = .ok (.aload_n 2, 1) := by decide +kernel
theorem dX9_init_130 : decode cX9_init 130 = .ok (.invokespecial 73, 3) := by decide +kernel
theorem dX9_init_133 : decode cX9_init 133 = .ok (.putfield 76, 3) := by decide +kernel
theorem dX9_init_136 : decode cX9_init 136 = .ok (.aload_n 0, 1) := by decide +kernel
theorem dX9_init_137 : decode cX9_init 137 = .ok (.iconst 0, 1) := by decide +kernel
theorem dX9_init_138 : decode cX9_init 138 = .ok (.putfield 80, 3) := by decide +kernel
theorem dX9_init_141 : decode cX9_init 141 = .ok (.aload_n 0, 1) := by decide +kernel
theorem dX9_init_142 : decode cX9_init 142 = .ok (.iconst 0, 1) := by decide +kernel
theorem dX9_init_143 : decode cX9_init 143 = .ok (.putfield 84, 3) := by decide +kernel
theorem dX9_init_146 : decode cX9_init 146 = .ok (.aload_n 0, 1) := by decide +kernel
theorem dX9_init_147 : decode cX9_init 147 = .ok (.iconst (-1), 1) := by decide +kernel
theorem dX9_init_148 : decode cX9_init 148 = .ok (.putfield 87, 3) := by decide +kernel
theorem dX9_init_151 : decode cX9_init 151 = .ok (.aload_n 0, 1) := by decide +kernel
theorem dX9_init_152 : decode cX9_init 152 = .ok (.iconst (-1), 1) := by decide +kernel
theorem dX9_init_153 : decode cX9_init 153 = .ok (.putfield 90, 3) := by decide +kernel
theorem dX9_init_156 : decode cX9_init 156 = .ok (.aload_n 0, 1) := by decide +kernel
theorem dX9_init_157 : decode cX9_init 157 = .ok (.iconst (-1), 1) := by decide +kernel
theorem dX9_init_158 : decode cX9_init 158 = .ok (.putfield 93, 3) := by decide +kernel
theorem dX9_init_161 : decode cX9_init 161 = .ok (.aload_n 0, 1) := by decide +kernel
theorem dX9_init_162 : decode cX9_init 162 = .ok (.iconst 0, 1) := by decide +kernel
theorem dX9_init_163 : decode cX9_init 163 = .ok (.putfield 96, 3) := by decide +kernel
theorem dX9_init_166 : decode cX9_init 166 = .ok (.aload_n 0, 1) := by decide +kernel
theorem dX9_init_167 : decode cX9_init 167 = .ok (.iconst 0, 1) := by decide +kernel
theorem dX9_init_168 : decode cX9_init 168 = .ok (.putfield 99, 3) := by decide +kernel
theorem dX9_init_171 : decode cX9_init 171 = .ok (.return_, 1) := by decide +kernel
theorem dX9_land_0 : decode cX9_land 0 = .ok (.iload_n 1, 1) := by decide +kernel
theorem dX9_land_1 : decode cX9_land 1 = .ok (.iconst 0, 1) := by decide +kernel
theorem dX9_land_2 : decode cX9_land 2 = .ok (.iconst 3, 1) := by decide +kernel
theorem dX9_land_3 : decode cX9_land 3 = .ok (.invokestatic 103, 3) := by decide +kernel
theorem dX9_land_6 : decode cX9_land 6 = .ok (.ifCond .eq 14, 3) := by decide +kernel
theorem dX9_land_9 : decode cX9_land 9 = .ok (.iload_n 2, 1) := by decide +kernel
theorem dX9_land_10 : decode cX9_land 10 = .ok (.iconst 0, 1) := by decide +kernel
theorem dX9_land_11 : decode cX9_land 11 = .ok (.sipush 999, 3) := by decide +kernel
theorem dX9_land_14 : decode cX9_land 14 = .ok (.invokestatic 103, 3) := by decide +kernel
theorem dX9_land_17 : decode cX9_land 17 = .ok (.ifCond .ne 13, 3) := by decide +kernel
theorem dX9_land_20 : decode cX9_land 20 = .ok (.new 107, 3) := by decide +kernel
theorem dX9_land_23 : decode cX9_land 23 = .ok (.dup, 1) := by decide +kernel
theorem dX9_land_24 : decode cX9_land 24 = .ok (.ldc 109, 2) := by decide +kernel
theorem dX9_land_26 : decode cX9_land 26 = .ok (.invokespecial 111, 3) := by decide +kernel
theorem dX9_land_29 : decode cX9_land 29 = .ok (.athrow, 1) := by decide +kernel
theorem dX9_land_30 : decode cX9_land 30 = .ok (.aload_n 0, 1) := by decide +kernel
theorem dX9_land_31 : decode cX9_land 31 = .ok (.iconst 0, 1) := by decide +kernel
theorem dX9_land_32 : decode cX9_land 32 = .ok (.invokevirtual 114, 3) := by decide +kernel
theorem dX9_land_35 : decode cX9_land 35 = .ok (.aload_n 0, 1) := by decide +kernel
theorem dX9_land_36 : decode cX9_land 36 = .ok (.getfield 38, 3) := by decide +kernel
theorem dX9_land_39 : decode cX9_land 39 = .ok (.getfield 118, 3) := by decide +kernel
theorem dX9_land_42 : decode cX9_land 42 = .ok (.bipush 8, 2) := by decide +kernel
theorem dX9_land_44 : decode cX9_land 44 = .ok (.if_icmp .lt 13, 3) := by decide +kernel
theorem dX9_land_47 : decode cX9_land 47 = .ok (.new 121, 3) := by decide +kernel
theorem dX9_land_50 : decode cX9_land 50 = .ok (.dup, 1) := by decide +kernel
theorem dX9_land_51 : decode cX9_land 51 = .ok (.ldc 123, 2) := by decide +kernel
theorem dX9_land_53 : decode cX9_land 53 = .ok (.invokespecial 125, 3) := by decide +kernel
theorem dX9_land_56 : decode cX9_land 56 = .ok (.athrow, 1) := by decide +kernel
theorem dX9_land_57 : decode cX9_land 57 = .ok (.aload_n 0, 1) := by decide +kernel
theorem dX9_land_58 : decode cX9_land 58 = .ok (.iconst 0, 1) := by decide +kernel
theorem dX9_land_59 : decode cX9_land 59 = .ok (.putfield 99, 3) := by decide +kernel
theorem dX9_land_62 : decode cX9_land 62 = .ok (.aload_n 0, 1) := by decide +kernel
theorem dX9_land_63 : decode cX9_land 63 = .ok (.getfield 38, 3) := by decide +kernel
theorem dX9_land_66 : decode cX9_land 66 = .ok (.iload_n 1, 1) := by decide +kernel
theorem dX9_land_67 : decode cX9_land 67 = .ok (.iload_n 2, 1) := by decide +kernel
theorem dX9_land_68 : decode cX9_land 68 = .ok (.invokevirtual 126, 3) := by decide +kernel
theorem dX9_land_71 : decode cX9_land 71 = .ok (.ireturn, 1) := by decide +kernel
theorem dX9_rules_0 : decode cX9_rules 0 = .ok (.iload_n 1, 1) := by decide +kernel
theorem dX9_rules_1 : decode cX9_rules 1 = .ok (.bipush 60, 2) := by decide +kernel
theorem dX9_rules_3 : decode cX9_rules 3 = .ok (.sipush 300, 3) := by decide +kernel
theorem dX9_rules_6 : decode cX9_rules 6 = .ok (.invokestatic 103, 3) := by decide +kernel
theorem dX9_rules_9 : decode cX9_rules 9 = .ok (.ifCond .eq 13, 3) := by decide +kernel
theorem dX9_rules_12 : decode cX9_rules 12 = .ok (.iload_n 2, 1) := by decide +kernel
theorem dX9_rules_13 : decode cX9_rules 13 = .ok (.iconst 1, 1) := by decide +kernel
theorem dX9_rules_14 : decode cX9_rules 14 = .ok (.bipush 9, 2) := by decide +kernel
theorem dX9_rules_16 : decode cX9_rules 16 = .ok (.invokestatic 103, 3) := by decide +kernel
theorem dX9_rules_19 : decode cX9_rules 19 = .ok (.ifCond .ne 13, 3) := by decide +kernel
theorem dX9_rules_22 : decode cX9_rules 22 = .ok (.new 107, 3) := by decide +kernel
theorem dX9_rules_25 : decode cX9_rules 25 = .ok (.dup, 1) := by decide +kernel
theorem dX9_rules_26 : decode cX9_rules 26 = .ok (.ldc 130, 2) := by decide +kernel
theorem dX9_rules_28 : decode cX9_rules 28 = .ok (.invokespecial 111, 3) := by decide +kernel
theorem dX9_rules_31 : decode cX9_rules 31 = .ok (.athrow, 1) := by decide +kernel
theorem dX9_rules_32 : decode cX9_rules 32 = .ok (.iload_n 3, 1) := by decide +kernel
theorem dX9_rules_33 : decode cX9_rules 33 = .ok (.iconst 1, 1) := by decide +kernel
theorem dX9_rules_34 : decode cX9_rules 34 = .ok (.bipush 20, 2) := by decide +kernel
theorem dX9_rules_36 : decode cX9_rules 36 = .ok (.invokestatic 103, 3) := by decide +kernel
theorem dX9_rules_39 : decode cX9_rules 39 = .ok (.ifCond .eq 14, 3) := by decide +kernel
theorem dX9_rules_42 : decode cX9_rules 42 = .ok (.iload 4, 2) := by decide +kernel
theorem dX9_rules_44 : decode cX9_rules 44 = .ok (.iconst 0, 1) := by decide +kernel
theorem dX9_rules_45 : decode cX9_rules 45 = .ok (.bipush 99, 2) := by decide +kernel
theorem dX9_rules_47 : decode cX9_rules 47 = .ok (.invokestatic 103, 3) := by decide +kernel
theorem dX9_rules_50 : decode cX9_rules 50 = .ok (.ifCond .ne 13, 3) := by decide +kernel
theorem dX9_rules_53 : decode cX9_rules 53 = .ok (.new 107, 3) := by decide +kernel
theorem dX9_rules_56 : decode cX9_rules 56 = .ok (.dup, 1) := by decide +kernel
theorem dX9_rules_57 : decode cX9_rules 57 = .ok (.ldc 132, 2) := by decide +kernel
theorem dX9_rules_59 : decode cX9_rules 59 = .ok (.invokespecial 111, 3) := by decide +kernel
theorem dX9_rules_62 : decode cX9_rules 62 = .ok (.athrow, 1) := by decide +kernel
theorem dX9_rules_63 : decode cX9_rules 63 = .ok (.aload_n 0, 1) := by decide +kernel
theorem dX9_rules_64 : decode cX9_rules 64 = .ok (.iconst 0, 1) := by decide +kernel
theorem dX9_rules_65 : decode cX9_rules 65 = .ok (.invokevirtual 114, 3) := by decide +kernel
theorem dX9_rules_68 : decode cX9_rules 68 = .ok (.aload_n 0, 1) := by decide +kernel
theorem dX9_rules_69 : decode cX9_rules 69 = .ok (.getfield 42, 3) := by decide +kernel
theorem dX9_rules_72 : decode cX9_rules 72 = .ok (.getfield 134, 3) := by decide +kernel
theorem dX9_rules_75 : decode cX9_rules 75 = .ok (.ifCond .le 13, 3) := by decide +kernel
theorem dX9_rules_78 : decode cX9_rules 78 = .ok (.new 121, 3) := by decide +kernel
theorem dX9_rules_81 : decode cX9_rules 81 = .ok (.dup, 1) := by decide +kernel
theorem dX9_rules_82 : decode cX9_rules 82 = .ok (.ldc 135, 2) := by decide +kernel
theorem dX9_rules_84 : decode cX9_rules 84 = .ok (.invokespecial 125, 3) := by decide +kernel
theorem dX9_rules_87 : decode cX9_rules 87 = .ok (.athrow, 1) := by decide +kernel
theorem dX9_rules_88 : decode cX9_rules 88 = .ok (.aload_n 0, 1) := by decide +kernel
theorem dX9_rules_89 : decode cX9_rules 89 = .ok (.getfield 32, 3) := by decide +kernel
theorem dX9_rules_92 : decode cX9_rules 92 = .ok (.getfield 137, 3) := by decide +kernel
theorem dX9_rules_95 : decode cX9_rules 95 = .ok (.istore 6, 2) := by decide +kernel
theorem dX9_rules_97 : decode cX9_rules 97 = .ok (.aload_n 0, 1) := by decide +kernel
theorem dX9_rules_98 : decode cX9_rules 98 = .ok (.getfield 32, 3) := by decide +kernel
theorem dX9_rules_101 : decode cX9_rules 101 = .ok (.iload_n 1, 1) := by decide +kernel
theorem dX9_rules_102 : decode cX9_rules 102 = .ok (.putfield 137, 3) := by decide +kernel
theorem dX9_rules_105 : decode cX9_rules 105 = .ok (.aload_n 0, 1) := by decide +kernel
theorem dX9_rules_106 : decode cX9_rules 106 = .ok (.getfield 32, 3) := by decide +kernel
theorem dX9_rules_109 : decode cX9_rules 109 = .ok (.iload_n 2, 1) := by decide +kernel
theorem dX9_rules_110 : decode cX9_rules 110 = .ok (.putfield 140, 3) := by decide +kernel
theorem dX9_rules_113 : decode cX9_rules 113 = .ok (.aload_n 0, 1) := by decide +kernel
theorem dX9_rules_114 : decode cX9_rules 114 = .ok (.getfield 32, 3) := by decide +kernel
theorem dX9_rules_117 : decode cX9_rules 117 = .ok (.iload_n 3, 1) := by decide +kernel
theorem dX9_rules_118 : decode cX9_rules 118 = .ok (.putfield 143, 3) := by decide +kernel
theorem dX9_rules_121 : decode cX9_rules 121 = .ok (.aload_n 0, 1) := by decide +kernel
theorem dX9_rules_122 : decode cX9_rules 122 = .ok (.getfield 32, 3) := by decide +kernel
theorem dX9_rules_125 : decode cX9_rules 125 = .ok (.iload 4, 2) := by decide +kernel
theorem dX9_rules_127 : decode cX9_rules 127 = .ok (.putfield 146, 3) := by decide +kernel
theorem dX9_rules_130 : decode cX9_rules 130 = .ok (.aload_n 0, 1) := by decide +kernel
theorem dX9_rules_131 : decode cX9_rules 131 = .ok (.getfield 32, 3) := by decide +kernel
theorem dX9_rules_134 : decode cX9_rules 134 = .ok (.iload 5, 2) := by decide +kernel
theorem dX9_rules_136 : decode cX9_rules 136 = .ok (.putfield 149, 3) := by decide +kernel
theorem dX9_rules_139 : decode cX9_rules 139 = .ok (.aload_n 0, 1) := by decide +kernel
theorem dX9_rules_140 : decode cX9_rules 140 = .ok (.iconst 0, 1) := by decide +kernel
theorem dX9_rules_141 : decode cX9_rules 141 = .ok (.putfield 99, 3) := by decide +kernel
theorem dX9_rules_144 : decode cX9_rules 144 = .ok (.iload 6, 2) := by decide +kernel
theorem dX9_rules_146 : decode cX9_rules 146 = .ok (.ireturn, 1) := by decide +kernel
theorem dX9_enter_0 : decode cX9_enter 0 = .ok (.aload_n 0, 1) := by decide +kernel
theorem dX9_enter_1 : decode cX9_enter 1 = .ok (.iload_n 1, 1) := by decide +kernel
theorem dX9_enter_2 : decode cX9_enter 2 = .ok (.invokevirtual 152, 3) := by decide +kernel
theorem dX9_enter_5 : decode cX9_enter 5 = .ok (.iload_n 2, 1) := by decide +kernel
theorem dX9_enter_6 : decode cX9_enter 6 = .ok (.iconst 1, 1) := by decide +kernel
theorem dX9_enter_7 : decode cX9_enter 7 = .ok (.sipush 600, 3) := by decide +kernel
theorem dX9_enter_10 : decode cX9_enter 10 = .ok (.invokestatic 103, 3) := by decide +kernel
theorem dX9_enter_13 : decode cX9_enter 13 = .ok (.ifCond .eq 24, 3) := by decide +kernel
theorem dX9_enter_16 : decode cX9_enter 16 = .ok (.iload_n 3, 1) := by decide +kernel
theorem dX9_enter_17 : decode cX9_enter 17 = .ok (.iconst 1, 1) := by decide +kernel
theorem dX9_enter_18 : decode cX9_enter 18 = .ok (.bipush 20, 2) := by decide +kernel
theorem dX9_enter_20 : decode cX9_enter 20 = .ok (.invokestatic 103, 3) := by decide +kernel
theorem dX9_enter_23 : decode cX9_enter 23 = .ok (.ifCond .eq 14, 3) := by decide +kernel
theorem dX9_enter_26 : decode cX9_enter 26 = .ok (.iload 4, 2) := by decide +kernel
theorem dX9_enter_28 : decode cX9_enter 28 = .ok (.iconst 0, 1) := by decide +kernel
theorem dX9_enter_29 : decode cX9_enter 29 = .ok (.bipush 9, 2) := by decide +kernel
theorem dX9_enter_31 : decode cX9_enter 31 = .ok (.invokestatic 103, 3) := by decide +kernel
theorem dX9_enter_34 : decode cX9_enter 34 = .ok (.ifCond .ne 13, 3) := by decide +kernel
theorem dX9_enter_37 : decode cX9_enter 37 = .ok (.new 107, 3) := by decide +kernel
theorem dX9_enter_40 : decode cX9_enter 40 = .ok (.dup, 1) := by decide +kernel
theorem dX9_enter_41 : decode cX9_enter 41 = .ok (.ldc 155, 2) := by decide +kernel
theorem dX9_enter_43 : decode cX9_enter 43 = .ok (.invokespecial 111, 3) := by decide +kernel
theorem dX9_enter_46 : decode cX9_enter 46 = .ok (.athrow, 1) := by decide +kernel
theorem dX9_enter_47 : decode cX9_enter 47 = .ok (.aload_n 0, 1) := by decide +kernel
theorem dX9_enter_48 : decode cX9_enter 48 = .ok (.iconst 0, 1) := by decide +kernel
theorem dX9_enter_49 : decode cX9_enter 49 = .ok (.invokevirtual 114, 3) := by decide +kernel
theorem dX9_enter_52 : decode cX9_enter 52 = .ok (.aload_n 0, 1) := by decide +kernel
theorem dX9_enter_53 : decode cX9_enter 53 = .ok (.getfield 42, 3) := by decide +kernel
theorem dX9_enter_56 : decode cX9_enter 56 = .ok (.getfield 157, 3) := by decide +kernel
theorem dX9_enter_59 : decode cX9_enter 59 = .ok (.iload_n 1, 1) := by decide +kernel
theorem dX9_enter_60 : decode cX9_enter 60 = .ok (.baload, 1) := by decide +kernel
theorem dX9_enter_61 : decode cX9_enter 61 = .ok (.ifCond .eq 13, 3) := by decide +kernel
theorem dX9_enter_64 : decode cX9_enter 64 = .ok (.new 121, 3) := by decide +kernel
theorem dX9_enter_67 : decode cX9_enter 67 = .ok (.dup, 1) := by decide +kernel
theorem dX9_enter_68 : decode cX9_enter 68 = .ok (.ldc 161, 2) := by decide +kernel
theorem dX9_enter_70 : decode cX9_enter 70 = .ok (.invokespecial 125, 3) := by decide +kernel
theorem dX9_enter_73 : decode cX9_enter 73 = .ok (.athrow, 1) := by decide +kernel
theorem dX9_enter_74 : decode cX9_enter 74 = .ok (.iload_n 2, 1) := by decide +kernel
theorem dX9_enter_75 : decode cX9_enter 75 = .ok (.aload_n 0, 1) := by decide +kernel
theorem dX9_enter_76 : decode cX9_enter 76 = .ok (.getfield 32, 3) := by decide +kernel
theorem dX9_enter_79 : decode cX9_enter 79 = .ok (.getfield 137, 3) := by decide +kernel
theorem dX9_enter_82 : decode cX9_enter 82 = .ok (.if_icmp .le 6, 3) := by decide +kernel
theorem dX9_enter_85 : decode cX9_enter 85 = .ok (.bipush (-2), 2) := by decide +kernel
theorem dX9_enter_87 : decode cX9_enter 87 = .ok (.ireturn, 1) := by decide +kernel
theorem dX9_enter_88 : decode cX9_enter 88 = .ok (.iload_n 3, 1) := by decide +kernel
theorem dX9_enter_89 : decode cX9_enter 89 = .ok (.aload_n 0, 1) := by decide +kernel
theorem dX9_enter_90 : decode cX9_enter 90 = .ok (.getfield 32, 3) := by decide +kernel
theorem dX9_enter_93 : decode cX9_enter 93 = .ok (.getfield 140, 3) := by decide +kernel
theorem dX9_enter_96 : decode cX9_enter 96 = .ok (.if_icmp .le 6, 3) := by decide +kernel
theorem dX9_enter_99 : decode cX9_enter 99 = .ok (.bipush (-3), 2) := by decide +kernel
theorem dX9_enter_101 : decode cX9_enter 101 = .ok (.ireturn, 1) := by decide +kernel
theorem dX9_enter_102 : decode cX9_enter 102 = .ok (.bipush 7, 2) := by decide +kernel
theorem dX9_enter_104 : decode cX9_enter 104 = .ok (.iload_n 1, 1) := by decide +kernel
theorem dX9_enter_105 : decode cX9_enter 105 = .ok (.imul, 1) := by decide +kernel
theorem dX9_enter_106 : decode cX9_enter 106 = .ok (.iconst 3, 1) := by decide +kernel
theorem dX9_enter_107 : decode cX9_enter 107 = .ok (.aload_n 0, 1) := by decide +kernel
theorem dX9_enter_108 : decode cX9_enter 108 = .ok (.getfield 80, 3) := by decide +kernel
theorem dX9_enter_111 : decode cX9_enter 111 = .ok (.imul, 1) := by decide +kernel
theorem dX9_enter_112 : decode cX9_enter 112 = .ok (.iadd, 1) := by decide +kernel
theorem dX9_enter_113 : decode cX9_enter 113 = .ok (.iload_n 2, 1) := by decide +kernel
theorem dX9_enter_114 : decode cX9_enter 114 = .ok (.iadd, 1) := by decide +kernel
theorem dX9_enter_115 : decode cX9_enter 115 = .ok (.iconst 2, 1) := by decide +kernel
theorem dX9_enter_116 : decode cX9_enter 116 = .ok (.irem, 1) := by decide +kernel
theorem dX9_enter_117 : decode cX9_enter 117 = .ok (.istore 5, 2) := by decide +kernel
theorem dX9_enter_119 : decode cX9_enter 119 = .ok (.aload_n 0, 1) := by decide +kernel
theorem dX9_enter_120 : decode cX9_enter 120 = .ok (.getfield 42, 3) := by decide +kernel
theorem dX9_enter_123 : decode cX9_enter 123 = .ok (.iload_n 1, 1) := by decide +kernel
theorem dX9_enter_124 : decode cX9_enter 124 = .ok (.iload_n 2, 1) := by decide +kernel
theorem dX9_enter_125 : decode cX9_enter 125 = .ok (.iload 4, 2) := by decide +kernel
theorem dX9_enter_127 : decode cX9_enter 127 = .ok (.iload 5, 2) := by decide +kernel
theorem dX9_enter_129 : decode cX9_enter 129 = .ok (.invokevirtual 163, 3) := by decide +kernel
theorem dX9_enter_132 : decode cX9_enter 132 = .ok (.aload_n 0, 1) := by decide +kernel
theorem dX9_enter_133 : decode cX9_enter 133 = .ok (.getfield 46, 3) := by decide +kernel
theorem dX9_enter_136 : decode cX9_enter 136 = .ok (.iload_n 1, 1) := by decide +kernel
theorem dX9_enter_137 : decode cX9_enter 137 = .ok (.invokevirtual 166, 3) := by decide +kernel
theorem dX9_enter_140 : decode cX9_enter 140 = .ok (.aload_n 0, 1) := by decide +kernel
theorem dX9_enter_141 : decode cX9_enter 141 = .ok (.getfield 38, 3) := by decide +kernel
theorem dX9_enter_144 : decode cX9_enter 144 = .ok (.getfield 169, 3) := by decide +kernel
theorem dX9_enter_147 : decode cX9_enter 147 = .ok (.iload_n 1, 1) := by decide +kernel
theorem dX9_enter_148 : decode cX9_enter 148 = .ok (.dup2, 1) := by decide +kernel
theorem dX9_enter_149 : decode cX9_enter 149 = .ok (.iaload, 1) := by decide +kernel
theorem dX9_enter_150 : decode cX9_enter 150 = .ok (.bipush 10, 2) := by decide +kernel
theorem dX9_enter_152 : decode cX9_enter 152 = .ok (.isub, 1) := by decide +kernel
theorem dX9_enter_153 : decode cX9_enter 153 = .ok (.iastore, 1) := by decide +kernel
theorem dX9_enter_154 : decode cX9_enter 154 = .ok (.aload_n 0, 1) := by decide +kernel
theorem dX9_enter_155 : decode cX9_enter 155 = .ok (.iconst 0, 1) := by decide +kernel
theorem dX9_enter_156 : decode cX9_enter 156 = .ok (.putfield 99, 3) := by decide +kernel
theorem dX9_enter_159 : decode cX9_enter 159 = .ok (.iload 5, 2) := by decide +kernel
theorem dX9_enter_161 : decode cX9_enter 161 = .ok (.ireturn, 1) := by decide +kernel
theorem dX9_move_0 : decode cX9_move 0 = .ok (.aload_n 0, 1) := by decide +kernel
theorem dX9_move_1 : decode cX9_move 1 = .ok (.iload_n 1, 1) := by decide +kernel
theorem dX9_move_2 : decode cX9_move 2 = .ok (.invokevirtual 152, 3) := by decide +kernel
theorem dX9_move_5 : decode cX9_move 5 = .ok (.iload_n 2, 1) := by decide +kernel
theorem dX9_move_6 : decode cX9_move 6 = .ok (.iconst 0, 1) := by decide +kernel
theorem dX9_move_7 : decode cX9_move 7 = .ok (.aload_n 0, 1) := by decide +kernel
theorem dX9_move_8 : decode cX9_move 8 = .ok (.getfield 42, 3) := by decide +kernel
theorem dX9_move_11 : decode cX9_move 11 = .ok (.getfield 134, 3) := by decide +kernel
theorem dX9_move_14 : decode cX9_move 14 = .ok (.iconst 1, 1) := by decide +kernel
theorem dX9_move_15 : decode cX9_move 15 = .ok (.isub, 1) := by decide +kernel
theorem dX9_move_16 : decode cX9_move 16 = .ok (.invokestatic 103, 3) := by decide +kernel
theorem dX9_move_19 : decode cX9_move 19 = .ok (.ifCond .ne 13, 3) := by decide +kernel
theorem dX9_move_22 : decode cX9_move 22 = .ok (.new 107, 3) := by decide +kernel
theorem dX9_move_25 : decode cX9_move 25 = .ok (.dup, 1) := by decide +kernel
theorem dX9_move_26 : decode cX9_move 26 = .ok (.ldc 179, 2) := by decide +kernel
theorem dX9_move_28 : decode cX9_move 28 = .ok (.invokespecial 111, 3) := by decide +kernel
theorem dX9_move_31 : decode cX9_move 31 = .ok (.athrow, 1) := by decide +kernel
theorem dX9_move_32 : decode cX9_move 32 = .ok (.aload_n 0, 1) := by decide +kernel
theorem dX9_move_33 : decode cX9_move 33 = .ok (.invokevirtual 181, 3) := by decide +kernel
theorem dX9_move_36 : decode cX9_move 36 = .ok (.ifCond .eq 27, 3) := by decide +kernel
theorem dX9_move_39 : decode cX9_move 39 = .ok (.aload_n 0, 1) := by decide +kernel
theorem dX9_move_40 : decode cX9_move 40 = .ok (.getfield 42, 3) := by decide +kernel
theorem dX9_move_43 : decode cX9_move 43 = .ok (.getfield 157, 3) := by decide +kernel
theorem dX9_move_46 : decode cX9_move 46 = .ok (.iload_n 1, 1) := by decide +kernel
theorem dX9_move_47 : decode cX9_move 47 = .ok (.baload, 1) := by decide +kernel
theorem dX9_move_48 : decode cX9_move 48 = .ok (.ifCond .eq 15, 3) := by decide +kernel
theorem dX9_move_51 : decode cX9_move 51 = .ok (.aload_n 0, 1) := by decide +kernel
theorem dX9_move_52 : decode cX9_move 52 = .ok (.getfield 46, 3) := by decide +kernel
theorem dX9_move_55 : decode cX9_move 55 = .ok (.iload_n 1, 1) := by decide +kernel
theorem dX9_move_56 : decode cX9_move 56 = .ok (.iload_n 2, 1) := by decide +kernel
theorem dX9_move_57 : decode cX9_move 57 = .ok (.invokevirtual 185, 3) := by decide +kernel
theorem dX9_move_60 : decode cX9_move 60 = .ok (.ifCond .ne 13, 3) := by decide +kernel
theorem dX9_move_63 : decode cX9_move 63 = .ok (.new 121, 3) := by decide +kernel
theorem dX9_move_66 : decode cX9_move 66 = .ok (.dup, 1) := by decide +kernel
theorem dX9_move_67 : decode cX9_move 67 = .ok (.ldc 189, 2) := by decide +kernel
theorem dX9_move_69 : decode cX9_move 69 = .ok (.invokespecial 125, 3) := by decide +kernel
theorem dX9_move_72 : decode cX9_move 72 = .ok (.athrow, 1) := by decide +kernel
theorem dX9_move_73 : decode cX9_move 73 = .ok (.aload_n 0, 1) := by decide +kernel
theorem dX9_move_74 : decode cX9_move 74 = .ok (.getfield 46, 3) := by decide +kernel
theorem dX9_move_77 : decode cX9_move 77 = .ok (.iload_n 1, 1) := by decide +kernel
theorem dX9_move_78 : decode cX9_move 78 = .ok (.iload_n 2, 1) := by decide +kernel
theorem dX9_move_79 : decode cX9_move 79 = .ok (.invokevirtual 191, 3) := by decide +kernel
theorem dX9_move_82 : decode cX9_move 82 = .ok (.aload_n 0, 1) := by decide +kernel
theorem dX9_move_83 : decode cX9_move 83 = .ok (.iconst 0, 1) := by decide +kernel
theorem dX9_move_84 : decode cX9_move 84 = .ok (.putfield 99, 3) := by decide +kernel
theorem dX9_move_87 : decode cX9_move 87 = .ok (.aload_n 0, 1) := by decide +kernel
theorem dX9_move_88 : decode cX9_move 88 = .ok (.getfield 46, 3) := by decide +kernel
theorem dX9_move_91 : decode cX9_move 91 = .ok (.invokevirtual 195, 3) := by decide +kernel
theorem dX9_move_94 : decode cX9_move 94 = .ok (.ireturn, 1) := by decide +kernel
theorem dX9_start_0 : decode cX9_start 0 = .ok (.aload_n 0, 1) := by decide +kernel
theorem dX9_start_1 : decode cX9_start 1 = .ok (.iconst 0, 1) := by decide +kernel
theorem dX9_start_2 : decode cX9_start 2 = .ok (.invokevirtual 114, 3) := by decide +kernel
theorem dX9_start_5 : decode cX9_start 5 = .ok (.aload_n 0, 1) := by decide +kernel
theorem dX9_start_6 : decode cX9_start 6 = .ok (.getfield 42, 3) := by decide +kernel
theorem dX9_start_9 : decode cX9_start 9 = .ok (.getfield 134, 3) := by decide +kernel
theorem dX9_start_12 : decode cX9_start 12 = .ok (.iconst 2, 1) := by decide +kernel
theorem dX9_start_13 : decode cX9_start 13 = .ok (.if_icmp .ge 13, 3) := by decide +kernel
theorem dX9_start_16 : decode cX9_start 16 = .ok (.new 121, 3) := by decide +kernel
theorem dX9_start_19 : decode cX9_start 19 = .ok (.dup, 1) := by decide +kernel
theorem dX9_start_20 : decode cX9_start 20 = .ok (.ldc 199, 2) := by decide +kernel
theorem dX9_start_22 : decode cX9_start 22 = .ok (.invokespecial 125, 3) := by decide +kernel
theorem dX9_start_25 : decode cX9_start 25 = .ok (.athrow, 1) := by decide +kernel
theorem dX9_start_26 : decode cX9_start 26 = .ok (.aload_n 0, 1) := by decide +kernel
theorem dX9_start_27 : decode cX9_start 27 = .ok (.iconst 1, 1) := by decide +kernel
theorem dX9_start_28 : decode cX9_start 28 = .ok (.putfield 84, 3) := by decide +kernel
theorem dX9_start_31 : decode cX9_start 31 = .ok (.aload_n 0, 1) := by decide +kernel
theorem dX9_start_32 : decode cX9_start 32 = .ok (.getfield 42, 3) := by decide +kernel
theorem dX9_start_35 : decode cX9_start 35 = .ok (.getfield 134, 3) := by decide +kernel
theorem dX9_start_38 : decode cX9_start 38 = .ok (.ireturn, 1) := by decide +kernel
theorem dX9_jury_0 : decode cX9_jury 0 = .ok (.aload_n 0, 1) := by decide +kernel
theorem dX9_jury_1 : decode cX9_jury 1 = .ok (.iload_n 1, 1) := by decide +kernel
theorem dX9_jury_2 : decode cX9_jury 2 = .ok (.invokevirtual 152, 3) := by decide +kernel
theorem dX9_jury_5 : decode cX9_jury 5 = .ok (.iload_n 2, 1) := by decide +kernel
theorem dX9_jury_6 : decode cX9_jury 6 = .ok (.iconst 0, 1) := by decide +kernel
theorem dX9_jury_7 : decode cX9_jury 7 = .ok (.iconst 4, 1) := by decide +kernel
theorem dX9_jury_8 : decode cX9_jury 8 = .ok (.invokestatic 103, 3) := by decide +kernel
theorem dX9_jury_11 : decode cX9_jury 11 = .ok (.ifCond .ne 13, 3) := by decide +kernel
theorem dX9_jury_14 : decode cX9_jury 14 = .ok (.new 201, 3) := by decide +kernel
theorem dX9_jury_17 : decode cX9_jury 17 = .ok (.dup, 1) := by decide +kernel
theorem dX9_jury_18 : decode cX9_jury 18 = .ok (.ldc 203, 2) := by decide +kernel
theorem dX9_jury_20 : decode cX9_jury 20 = .ok (.invokespecial 205, 3) := by decide +kernel
theorem dX9_jury_23 : decode cX9_jury 23 = .ok (.athrow, 1) := by decide +kernel
theorem dX9_jury_24 : decode cX9_jury 24 = .ok (.iload_n 3, 1) := by decide +kernel
theorem dX9_jury_25 : decode cX9_jury 25 = .ok (.iconst 0, 1) := by decide +kernel
theorem dX9_jury_26 : decode cX9_jury 26 = .ok (.aload_n 0, 1) := by decide +kernel
theorem dX9_jury_27 : decode cX9_jury 27 = .ok (.getfield 42, 3) := by decide +kernel
theorem dX9_jury_30 : decode cX9_jury 30 = .ok (.iload_n 1, 1) := by decide +kernel
theorem dX9_jury_31 : decode cX9_jury 31 = .ok (.invokevirtual 206, 3) := by decide +kernel
theorem dX9_jury_34 : decode cX9_jury 34 = .ok (.invokestatic 210, 3) := by decide +kernel
theorem dX9_jury_37 : decode cX9_jury 37 = .ok (.iconst 1, 1) := by decide +kernel
theorem dX9_jury_38 : decode cX9_jury 38 = .ok (.isub, 1) := by decide +kernel
theorem dX9_jury_39 : decode cX9_jury 39 = .ok (.invokestatic 103, 3) := by decide +kernel
theorem dX9_jury_42 : decode cX9_jury 42 = .ok (.ifCond .ne 13, 3) := by decide +kernel
theorem dX9_jury_45 : decode cX9_jury 45 = .ok (.new 107, 3) := by decide +kernel
theorem dX9_jury_48 : decode cX9_jury 48 = .ok (.dup, 1) := by decide +kernel
theorem dX9_jury_49 : decode cX9_jury 49 = .ok (.ldc 213, 2) := by decide +kernel
theorem dX9_jury_51 : decode cX9_jury 51 = .ok (.invokespecial 111, 3) := by decide +kernel
theorem dX9_jury_54 : decode cX9_jury 54 = .ok (.athrow, 1) := by decide +kernel
theorem dX9_jury_55 : decode cX9_jury 55 = .ok (.aload_n 0, 1) := by decide +kernel
theorem dX9_jury_56 : decode cX9_jury 56 = .ok (.iconst 1, 1) := by decide +kernel
theorem dX9_jury_57 : decode cX9_jury 57 = .ok (.invokevirtual 114, 3) := by decide +kernel
theorem dX9_jury_60 : decode cX9_jury 60 = .ok (.aload_n 0, 1) := by decide +kernel
theorem dX9_jury_61 : decode cX9_jury 61 = .ok (.getfield 50, 3) := by decide +kernel
theorem dX9_jury_64 : decode cX9_jury 64 = .ok (.iload_n 1, 1) := by decide +kernel
theorem dX9_jury_65 : decode cX9_jury 65 = .ok (.iload_n 2, 1) := by decide +kernel
theorem dX9_jury_66 : decode cX9_jury 66 = .ok (.iload_n 3, 1) := by decide +kernel
theorem dX9_jury_67 : decode cX9_jury 67 = .ok (.invokevirtual 215, 3) := by decide +kernel
theorem dX9_jury_70 : decode cX9_jury 70 = .ok (.aload_n 0, 1) := by decide +kernel
theorem dX9_jury_71 : decode cX9_jury 71 = .ok (.iconst 0, 1) := by decide +kernel
theorem dX9_jury_72 : decode cX9_jury 72 = .ok (.putfield 99, 3) := by decide +kernel
theorem dX9_jury_75 : decode cX9_jury 75 = .ok (.aload_n 0, 1) := by decide +kernel
theorem dX9_jury_76 : decode cX9_jury 76 = .ok (.getfield 50, 3) := by decide +kernel
theorem dX9_jury_79 : decode cX9_jury 79 = .ok (.iload_n 1, 1) := by decide +kernel
theorem dX9_jury_80 : decode cX9_jury 80 = .ok (.iload_n 2, 1) := by decide +kernel
theorem dX9_jury_81 : decode cX9_jury 81 = .ok (.invokevirtual 219, 3) := by decide +kernel
theorem dX9_jury_84 : decode cX9_jury 84 = .ok (.ireturn, 1) := by decide +kernel
theorem dX9_call_0 : decode cX9_call 0 = .ok (.aload_n 0, 1) := by decide +kernel
theorem dX9_call_1 : decode cX9_call 1 = .ok (.iload_n 1, 1) := by decide +kernel
theorem dX9_call_2 : decode cX9_call 2 = .ok (.invokevirtual 152, 3) := by decide +kernel
theorem dX9_call_5 : decode cX9_call 5 = .ok (.aload_n 0, 1) := by decide +kernel
theorem dX9_call_6 : decode cX9_call 6 = .ok (.iload_n 3, 1) := by decide +kernel
theorem dX9_call_7 : decode cX9_call 7 = .ok (.invokevirtual 222, 3) := by decide +kernel
theorem dX9_call_10 : decode cX9_call 10 = .ok (.iload_n 2, 1) := by decide +kernel
theorem dX9_call_11 : decode cX9_call 11 = .ok (.iconst 0, 1) := by decide +kernel
theorem dX9_call_12 : decode cX9_call 12 = .ok (.bipush 9, 2) := by decide +kernel
theorem dX9_call_14 : decode cX9_call 14 = .ok (.invokestatic 103, 3) := by decide +kernel
theorem dX9_call_17 : decode cX9_call 17 = .ok (.ifCond .ne 13, 3) := by decide +kernel
theorem dX9_call_20 : decode cX9_call 20 = .ok (.new 201, 3) := by decide +kernel
theorem dX9_call_23 : decode cX9_call 23 = .ok (.dup, 1) := by decide +kernel
theorem dX9_call_24 : decode cX9_call 24 = .ok (.ldc 225, 2) := by decide +kernel
theorem dX9_call_26 : decode cX9_call 26 = .ok (.invokespecial 205, 3) := by decide +kernel
theorem dX9_call_29 : decode cX9_call 29 = .ok (.athrow, 1) := by decide +kernel
theorem dX9_call_30 : decode cX9_call 30 = .ok (.aload_n 0, 1) := by decide +kernel
theorem dX9_call_31 : decode cX9_call 31 = .ok (.getfield 42, 3) := by decide +kernel
theorem dX9_call_34 : decode cX9_call 34 = .ok (.iload_n 1, 1) := by decide +kernel
theorem dX9_call_35 : decode cX9_call 35 = .ok (.iload_n 3, 1) := by decide +kernel
theorem dX9_call_36 : decode cX9_call 36 = .ok (.invokevirtual 227, 3) := by decide +kernel
theorem dX9_call_39 : decode cX9_call 39 = .ok (.ifCond .eq 14, 3) := by decide +kernel
theorem dX9_call_42 : decode cX9_call 42 = .ok (.iload 4, 2) := by decide +kernel
theorem dX9_call_44 : decode cX9_call 44 = .ok (.iconst 1, 1) := by decide +kernel
theorem dX9_call_45 : decode cX9_call 45 = .ok (.bipush 99, 2) := by decide +kernel
theorem dX9_call_47 : decode cX9_call 47 = .ok (.invokestatic 103, 3) := by decide +kernel
theorem dX9_call_50 : decode cX9_call 50 = .ok (.ifCond .ne 13, 3) := by decide +kernel
theorem dX9_call_53 : decode cX9_call 53 = .ok (.new 107, 3) := by decide +kernel
theorem dX9_call_56 : decode cX9_call 56 = .ok (.dup, 1) := by decide +kernel
theorem dX9_call_57 : decode cX9_call 57 = .ok (.ldc 230, 2) := by decide +kernel
theorem dX9_call_59 : decode cX9_call 59 = .ok (.invokespecial 111, 3) := by decide +kernel
theorem dX9_call_62 : decode cX9_call 62 = .ok (.athrow, 1) := by decide +kernel
theorem dX9_call_63 : decode cX9_call 63 = .ok (.aload_n 0, 1) := by decide +kernel
theorem dX9_call_64 : decode cX9_call 64 = .ok (.iconst 1, 1) := by decide +kernel
theorem dX9_call_65 : decode cX9_call 65 = .ok (.invokevirtual 114, 3) := by decide +kernel
theorem dX9_call_68 : decode cX9_call 68 = .ok (.aload_n 0, 1) := by decide +kernel
theorem dX9_call_69 : decode cX9_call 69 = .ok (.iconst 0, 1) := by decide +kernel
theorem dX9_call_70 : decode cX9_call 70 = .ok (.putfield 99, 3) := by decide +kernel
theorem dX9_call_73 : decode cX9_call 73 = .ok (.aload_n 0, 1) := by decide +kernel
theorem dX9_call_74 : decode cX9_call 74 = .ok (.getfield 58, 3) := by decide +kernel
theorem dX9_call_77 : decode cX9_call 77 = .ok (.iload_n 1, 1) := by decide +kernel
theorem dX9_call_78 : decode cX9_call 78 = .ok (.iload_n 2, 1) := by decide +kernel
theorem dX9_call_79 : decode cX9_call 79 = .ok (.iload_n 3, 1) := by decide +kernel
theorem dX9_call_80 : decode cX9_call 80 = .ok (.iload 4, 2) := by decide +kernel
theorem dX9_call_82 : decode cX9_call 82 = .ok (.aload_n 0, 1) := by decide +kernel
theorem dX9_call_83 : decode cX9_call 83 = .ok (.getfield 32, 3) := by decide +kernel
theorem dX9_call_86 : decode cX9_call 86 = .ok (.getfield 143, 3) := by decide +kernel
theorem dX9_call_89 : decode cX9_call 89 = .ok (.invokevirtual 232, 3) := by decide +kernel
theorem dX9_call_92 : decode cX9_call 92 = .ok (.ireturn, 1) := by decide +kernel
theorem dX9_disqualify_0 : decode cX9_disqualify 0 = .ok (.aload_n 0, 1) := by decide +kernel
theorem dX9_disqualify_1 : decode cX9_disqualify 1 = .ok (.iload_n 1, 1) := by decide +kernel
theorem dX9_disqualify_2 : decode cX9_disqualify 2 = .ok (.invokevirtual 152, 3) := by decide +kernel
theorem dX9_disqualify_5 : decode cX9_disqualify 5 = .ok (.aload_n 0, 1) := by decide +kernel
theorem dX9_disqualify_6 : decode cX9_disqualify 6 = .ok (.iload_n 1, 1) := by decide +kernel
theorem dX9_disqualify_7 : decode cX9_disqualify 7 = .ok (.invokevirtual 222, 3) := by decide +kernel
theorem dX9_disqualify_10 : decode cX9_disqualify 10 = .ok (.aload_n 0, 1) := by decide +kernel
theorem dX9_disqualify_11 : decode cX9_disqualify 11 = .ok (.getfield 84, 3) := by decide +kernel
theorem dX9_disqualify_14 : decode cX9_disqualify 14 = .ok (.iconst 1, 1) := by decide +kernel
theorem dX9_disqualify_15 : decode cX9_disqualify 15 = .ok (.if_icmp .eq 21, 3) := by decide +kernel
theorem dX9_disqualify_18 : decode cX9_disqualify 18 = .ok (.aload_n 0, 1) := by decide +kernel
theorem dX9_disqualify_19 : decode cX9_disqualify 19 = .ok (.getfield 84, 3) := by decide +kernel
theorem dX9_disqualify_22 : decode cX9_disqualify 22 = .ok (.iconst 2, 1) := by decide +kernel
theorem dX9_disqualify_23 : decode cX9_disqualify 23 = .ok (.if_icmp .eq 13, 3) := by decide +kernel
theorem dX9_disqualify_26 : decode cX9_disqualify 26 = .ok (.new 121, 3) := by decide +kernel
theorem dX9_disqualify_29 : decode cX9_disqualify 29 = .ok (.dup, 1) := by decide +kernel
theorem dX9_disqualify_30 : decode cX9_disqualify 30 = .ok (.ldc 236, 2) := by decide +kernel
theorem dX9_disqualify_32 : decode cX9_disqualify 32 = .ok (.invokespecial 125, 3) := by decide +kernel
theorem dX9_disqualify_35 : decode cX9_disqualify 35 = .ok (.athrow, 1) := by decide +kernel
theorem dX9_disqualify_36 : decode cX9_disqualify 36 = .ok (.aload_n 0, 1) := by decide +kernel
theorem dX9_disqualify_37 : decode cX9_disqualify 37 = .ok (.getfield 42, 3) := by decide +kernel
theorem dX9_disqualify_40 : decode cX9_disqualify 40 = .ok (.getfield 238, 3) := by decide +kernel
theorem dX9_disqualify_43 : decode cX9_disqualify 43 = .ok (.iload_n 1, 1) := by decide +kernel
theorem dX9_disqualify_44 : decode cX9_disqualify 44 = .ok (.baload, 1) := by decide +kernel
theorem dX9_disqualify_45 : decode cX9_disqualify 45 = .ok (.ifCond .ne 14, 3) := by decide +kernel
theorem dX9_disqualify_48 : decode cX9_disqualify 48 = .ok (.aload_n 0, 1) := by decide +kernel
theorem dX9_disqualify_49 : decode cX9_disqualify 49 = .ok (.getfield 42, 3) := by decide +kernel
theorem dX9_disqualify_52 : decode cX9_disqualify 52 = .ok (.invokevirtual 241, 3) := by decide +kernel
theorem dX9_disqualify_55 : decode cX9_disqualify 55 = .ok (.iconst 3, 1) := by decide +kernel
theorem dX9_disqualify_56 : decode cX9_disqualify 56 = .ok (.if_icmp .ge 13, 3) := by decide +kernel
theorem dX9_disqualify_59 : decode cX9_disqualify 59 = .ok (.new 121, 3) := by decide +kernel
theorem dX9_disqualify_62 : decode cX9_disqualify 62 = .ok (.dup, 1) := by decide +kernel
theorem dX9_disqualify_63 : decode cX9_disqualify 63 = .ok (.ldc 244, 2) := by decide +kernel
theorem dX9_disqualify_65 : decode cX9_disqualify 65 = .ok (.invokespecial 125, 3) := by decide +kernel
theorem dX9_disqualify_68 : decode cX9_disqualify 68 = .ok (.athrow, 1) := by decide +kernel
theorem dX9_disqualify_69 : decode cX9_disqualify 69 = .ok (.aload_n 0, 1) := by decide +kernel
theorem dX9_disqualify_70 : decode cX9_disqualify 70 = .ok (.getfield 42, 3) := by decide +kernel
theorem dX9_disqualify_73 : decode cX9_disqualify 73 = .ok (.iload_n 1, 1) := by decide +kernel
theorem dX9_disqualify_74 : decode cX9_disqualify 74 = .ok (.invokevirtual 246, 3) := by decide +kernel
theorem dX9_disqualify_77 : decode cX9_disqualify 77 = .ok (.aload_n 0, 1) := by decide +kernel
theorem dX9_disqualify_78 : decode cX9_disqualify 78 = .ok (.getfield 50, 3) := by decide +kernel
theorem dX9_disqualify_81 : decode cX9_disqualify 81 = .ok (.iload_n 1, 1) := by decide +kernel
theorem dX9_disqualify_82 : decode cX9_disqualify 82 = .ok (.invokevirtual 249, 3) := by decide +kernel
theorem dX9_disqualify_85 : decode cX9_disqualify 85 = .ok (.aload_n 0, 1) := by decide +kernel
theorem dX9_disqualify_86 : decode cX9_disqualify 86 = .ok (.getfield 76, 3) := by decide +kernel
theorem dX9_disqualify_89 : decode cX9_disqualify 89 = .ok (.iload_n 1, 1) := by decide +kernel
theorem dX9_disqualify_90 : decode cX9_disqualify 90 = .ok (.invokevirtual 252, 3) := by decide +kernel
theorem dX9_disqualify_93 : decode cX9_disqualify 93 = .ok (.aload_n 0, 1) := by decide +kernel
theorem dX9_disqualify_94 : decode cX9_disqualify 94 = .ok (.iconst 0, 1) := by decide +kernel
theorem dX9_disqualify_95 : decode cX9_disqualify 95 = .ok (.putfield 99, 3) := by decide +kernel
theorem dX9_disqualify_98 : decode cX9_disqualify 98 = .ok (.aload_n 0, 1) := by decide +kernel
theorem dX9_disqualify_99 : decode cX9_disqualify 99 = .ok (.getfield 42, 3) := by decide +kernel
theorem dX9_disqualify_102 : decode cX9_disqualify 102 = .ok (.invokevirtual 241, 3) := by decide +kernel
theorem dX9_disqualify_105 : decode cX9_disqualify 105 = .ok (.ireturn, 1) := by decide +kernel
theorem dX9_close_0 : decode cX9_close 0 = .ok (.aload_n 0, 1) := by decide +kernel
theorem dX9_close_1 : decode cX9_close 1 = .ok (.iconst 1, 1) := by decide +kernel
theorem dX9_close_2 : decode cX9_close 2 = .ok (.invokevirtual 114, 3) := by decide +kernel
theorem dX9_close_5 : decode cX9_close 5 = .ok (.aload_n 0, 1) := by decide +kernel
theorem dX9_close_6 : decode cX9_close 6 = .ok (.iconst 2, 1) := by decide +kernel
theorem dX9_close_7 : decode cX9_close 7 = .ok (.putfield 84, 3) := by decide +kernel
theorem dX9_close_10 : decode cX9_close 10 = .ok (.aload_n 0, 1) := by decide +kernel
theorem dX9_close_11 : decode cX9_close 11 = .ok (.invokevirtual 255, 3) := by decide +kernel
theorem dX9_close_14 : decode cX9_close 14 = .ok (.aload_n 0, 1) := by decide +kernel
theorem dX9_close_15 : decode cX9_close 15 = .ok (.invokevirtual 257, 3) := by decide +kernel
theorem dX9_close_18 : decode cX9_close 18 = .ok (.ireturn, 1) := by decide +kernel
theorem dX9_read_0 : decode cX9_read 0 = .ok (.aload_n 0, 1) := by decide +kernel
theorem dX9_read_1 : decode cX9_read 1 = .ok (.iload_n 1, 1) := by decide +kernel
theorem dX9_read_2 : decode cX9_read 2 = .ok (.invokevirtual 152, 3) := by decide +kernel
theorem dX9_read_5 : decode cX9_read 5 = .ok (.aload_n 0, 1) := by decide +kernel
theorem dX9_read_6 : decode cX9_read 6 = .ok (.iconst 2, 1) := by decide +kernel
theorem dX9_read_7 : decode cX9_read 7 = .ok (.invokevirtual 114, 3) := by decide +kernel
theorem dX9_read_10 : decode cX9_read 10 = .ok (.aload_n 0, 1) := by decide +kernel
theorem dX9_read_11 : decode cX9_read 11 = .ok (.getfield 76, 3) := by decide +kernel
theorem dX9_read_14 : decode cX9_read 14 = .ok (.iload_n 1, 1) := by decide +kernel
theorem dX9_read_15 : decode cX9_read 15 = .ok (.invokevirtual 271, 3) := by decide +kernel
theorem dX9_read_18 : decode cX9_read 18 = .ok (.ifCond .ne 14, 3) := by decide +kernel
theorem dX9_read_21 : decode cX9_read 21 = .ok (.new 121, 3) := by decide +kernel
theorem dX9_read_24 : decode cX9_read 24 = .ok (.dup, 1) := by decide +kernel
theorem dX9_read_25 : decode cX9_read 25 = .ok (.ldc_w 275, 3) := by decide +kernel
theorem dX9_read_28 : decode cX9_read 28 = .ok (.invokespecial 125, 3) := by decide +kernel
theorem dX9_read_31 : decode cX9_read 31 = .ok (.athrow, 1) := by decide +kernel
theorem dX9_read_32 : decode cX9_read 32 = .ok (.aload_n 0, 1) := by decide +kernel
theorem dX9_read_33 : decode cX9_read 33 = .ok (.invokevirtual 255, 3) := by decide +kernel
theorem dX9_read_36 : decode cX9_read 36 = .ok (.aload_n 0, 1) := by decide +kernel
theorem dX9_read_37 : decode cX9_read 37 = .ok (.getfield 76, 3) := by decide +kernel
theorem dX9_read_40 : decode cX9_read 40 = .ok (.iload_n 1, 1) := by decide +kernel
theorem dX9_read_41 : decode cX9_read 41 = .ok (.aload_n 0, 1) := by decide +kernel
theorem dX9_read_42 : decode cX9_read 42 = .ok (.getfield 54, 3) := by decide +kernel
theorem dX9_read_45 : decode cX9_read 45 = .ok (.getfield 277, 3) := by decide +kernel
theorem dX9_read_48 : decode cX9_read 48 = .ok (.iload_n 1, 1) := by decide +kernel
theorem dX9_read_49 : decode cX9_read 49 = .ok (.aaload, 1) := by decide +kernel
theorem dX9_read_50 : decode cX9_read 50 = .ok (.invokevirtual 281, 3) := by decide +kernel
theorem dX9_read_53 : decode cX9_read 53 = .ok (.aload_n 0, 1) := by decide +kernel
theorem dX9_read_54 : decode cX9_read 54 = .ok (.getfield 54, 3) := by decide +kernel
theorem dX9_read_57 : decode cX9_read 57 = .ok (.iload_n 1, 1) := by decide +kernel
theorem dX9_read_58 : decode cX9_read 58 = .ok (.invokevirtual 285, 3) := by decide +kernel
theorem dX9_read_61 : decode cX9_read 61 = .ok (.ireturn, 1) := by decide +kernel
theorem dX9_readCalls_0 : decode cX9_readCalls 0 = .ok (.aload_n 0, 1) := by decide +kernel
theorem dX9_readCalls_1 : decode cX9_readCalls 1 = .ok (.iconst 2, 1) := by decide +kernel
theorem dX9_readCalls_2 : decode cX9_readCalls 2 = .ok (.invokevirtual 114, 3) := by decide +kernel
theorem dX9_readCalls_5 : decode cX9_readCalls 5 = .ok (.aload_n 0, 1) := by decide +kernel
theorem dX9_readCalls_6 : decode cX9_readCalls 6 = .ok (.getfield 76, 3) := by decide +kernel
theorem dX9_readCalls_9 : decode cX9_readCalls 9 = .ok (.invokevirtual 288, 3) := by decide +kernel
theorem dX9_readCalls_12 : decode cX9_readCalls 12 = .ok (.istore_n 1, 1) := by decide +kernel
theorem dX9_readCalls_13 : decode cX9_readCalls 13 = .ok (.aload_n 0, 1) := by decide +kernel
theorem dX9_readCalls_14 : decode cX9_readCalls 14 = .ok (.getfield 76, 3) := by decide +kernel
theorem dX9_readCalls_17 : decode cX9_readCalls 17 = .ok (.getfield 291, 3) := by decide +kernel
theorem dX9_readCalls_20 : decode cX9_readCalls 20 = .ok (.aload_n 0, 1) := by decide +kernel
theorem dX9_readCalls_21 : decode cX9_readCalls 21 = .ok (.getfield 38, 3) := by decide +kernel
theorem dX9_readCalls_24 : decode cX9_readCalls 24 = .ok (.getfield 118, 3) := by decide +kernel
theorem dX9_readCalls_27 : decode cX9_readCalls 27 = .ok (.if_icmp .lt 8, 3) := by decide +kernel
theorem dX9_readCalls_30 : decode cX9_readCalls 30 = .ok (.iload_n 1, 1) := by decide +kernel
theorem dX9_readCalls_31 : decode cX9_readCalls 31 = .ok (.iconst (-1), 1) := by decide +kernel
theorem dX9_readCalls_32 : decode cX9_readCalls 32 = .ok (.if_icmp .ne 14, 3) := by decide +kernel
theorem dX9_readCalls_35 : decode cX9_readCalls 35 = .ok (.new 121, 3) := by decide +kernel
theorem dX9_readCalls_38 : decode cX9_readCalls 38 = .ok (.dup, 1) := by decide +kernel
theorem dX9_readCalls_39 : decode cX9_readCalls 39 = .ok (.ldc_w 294, 3) := by decide +kernel
theorem dX9_readCalls_42 : decode cX9_readCalls 42 = .ok (.invokespecial 125, 3) := by decide +kernel
theorem dX9_readCalls_45 : decode cX9_readCalls 45 = .ok (.athrow, 1) := by decide +kernel
theorem dX9_readCalls_46 : decode cX9_readCalls 46 = .ok (.aload_n 0, 1) := by decide +kernel
theorem dX9_readCalls_47 : decode cX9_readCalls 47 = .ok (.invokevirtual 255, 3) := by decide +kernel
theorem dX9_readCalls_50 : decode cX9_readCalls 50 = .ok (.aload_n 0, 1) := by decide +kernel
theorem dX9_readCalls_51 : decode cX9_readCalls 51 = .ok (.getfield 67, 3) := by decide +kernel
theorem dX9_readCalls_54 : decode cX9_readCalls 54 = .ok (.getfield 296, 3) := by decide +kernel
theorem dX9_readCalls_57 : decode cX9_readCalls 57 = .ok (.iload_n 1, 1) := by decide +kernel
theorem dX9_readCalls_58 : decode cX9_readCalls 58 = .ok (.iaload, 1) := by decide +kernel
theorem dX9_readCalls_59 : decode cX9_readCalls 59 = .ok (.istore_n 2, 1) := by decide +kernel
theorem dX9_readCalls_60 : decode cX9_readCalls 60 = .ok (.aload_n 0, 1) := by decide +kernel
theorem dX9_readCalls_61 : decode cX9_readCalls 61 = .ok (.getfield 76, 3) := by decide +kernel
theorem dX9_readCalls_64 : decode cX9_readCalls 64 = .ok (.iload_n 1, 1) := by decide +kernel
theorem dX9_readCalls_65 : decode cX9_readCalls 65 = .ok (.iload_n 2, 1) := by decide +kernel
theorem dX9_readCalls_66 : decode cX9_readCalls 66 = .ok (.invokevirtual 299, 3) := by decide +kernel
theorem dX9_readCalls_69 : decode cX9_readCalls 69 = .ok (.sipush 1000, 3) := by decide +kernel
theorem dX9_readCalls_72 : decode cX9_readCalls 72 = .ok (.iload_n 1, 1) := by decide +kernel
theorem dX9_readCalls_73 : decode cX9_readCalls 73 = .ok (.imul, 1) := by decide +kernel
theorem dX9_readCalls_74 : decode cX9_readCalls 74 = .ok (.iload_n 2, 1) := by decide +kernel
theorem dX9_readCalls_75 : decode cX9_readCalls 75 = .ok (.iadd, 1) := by decide +kernel
theorem dX9_readCalls_76 : decode cX9_readCalls 76 = .ok (.ireturn, 1) := by decide +kernel
theorem dX9_correct_0 : decode cX9_correct 0 = .ok (.aload_n 0, 1) := by decide +kernel
theorem dX9_correct_1 : decode cX9_correct 1 = .ok (.iload_n 1, 1) := by decide +kernel
theorem dX9_correct_2 : decode cX9_correct 2 = .ok (.invokevirtual 152, 3) := by decide +kernel
theorem dX9_correct_5 : decode cX9_correct 5 = .ok (.aload_n 0, 1) := by decide +kernel
theorem dX9_correct_6 : decode cX9_correct 6 = .ok (.iconst 2, 1) := by decide +kernel
theorem dX9_correct_7 : decode cX9_correct 7 = .ok (.invokevirtual 114, 3) := by decide +kernel
theorem dX9_correct_10 : decode cX9_correct 10 = .ok (.aload_n 0, 1) := by decide +kernel
theorem dX9_correct_11 : decode cX9_correct 11 = .ok (.getfield 76, 3) := by decide +kernel
theorem dX9_correct_14 : decode cX9_correct 14 = .ok (.getfield 260, 3) := by decide +kernel
theorem dX9_correct_17 : decode cX9_correct 17 = .ok (.iload_n 1, 1) := by decide +kernel
theorem dX9_correct_18 : decode cX9_correct 18 = .ok (.baload, 1) := by decide +kernel
theorem dX9_correct_19 : decode cX9_correct 19 = .ok (.ifCond .ne 14, 3) := by decide +kernel
theorem dX9_correct_22 : decode cX9_correct 22 = .ok (.new 121, 3) := by decide +kernel
theorem dX9_correct_25 : decode cX9_correct 25 = .ok (.dup, 1) := by decide +kernel
theorem dX9_correct_26 : decode cX9_correct 26 = .ok (.ldc_w 302, 3) := by decide +kernel
theorem dX9_correct_29 : decode cX9_correct 29 = .ok (.invokespecial 125, 3) := by decide +kernel
theorem dX9_correct_32 : decode cX9_correct 32 = .ok (.athrow, 1) := by decide +kernel
theorem dX9_correct_33 : decode cX9_correct 33 = .ok (.aload_n 0, 1) := by decide +kernel
