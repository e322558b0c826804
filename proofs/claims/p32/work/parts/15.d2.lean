theorem dX2_borrowSums_28 : decode cX2_borrowSums 28 = .ok (.ifCond .ne 30, 3) := by decide +kernel
theorem dX2_borrowSums_31 : decode cX2_borrowSums 31 = .ok (.aload_n 0, 1) := by decide +kernel
theorem dX2_borrowSums_32 : decode cX2_borrowSums 32 = .ok (.getfield 39, 3) := by decide +kernel
theorem dX2_borrowSums_35 : decode cX2_borrowSums 35 = .ok (.getfield 124, 3) := by decide +kernel
theorem dX2_borrowSums_38 : decode cX2_borrowSums 38 = .ok (.iload_n 2, 1) := by decide +kernel
theorem dX2_borrowSums_39 : decode cX2_borrowSums 39 = .ok (.iaload, 1) := by decide +kernel
theorem dX2_borrowSums_40 : decode cX2_borrowSums 40 = .ok (.aload_n 0, 1) := by decide +kernel
theorem dX2_borrowSums_41 : decode cX2_borrowSums 41 = .ok (.getfield 39, 3) := by decide +kernel
theorem dX2_borrowSums_44 : decode cX2_borrowSums 44 = .ok (.getfield 124, 3) := by decide +kernel
theorem dX2_borrowSums_47 : decode cX2_borrowSums 47 = .ok (.iload_n 1, 1) := by decide +kernel
theorem dX2_borrowSums_48 : decode cX2_borrowSums 48 = .ok (.iaload, 1) := by decide +kernel
theorem dX2_borrowSums_49 : decode cX2_borrowSums 49 = .ok (.if_icmp .ne 9, 3) := by decide +kernel
theorem dX2_borrowSums_52 : decode cX2_borrowSums 52 = .ok (.aload_n 0, 1) := by decide +kernel
theorem dX2_borrowSums_53 : decode cX2_borrowSums 53 = .ok (.iload_n 1, 1) := by decide +kernel
theorem dX2_borrowSums_54 : decode cX2_borrowSums 54 = .ok (.iload_n 2, 1) := by decide +kernel
theorem dX2_borrowSums_55 : decode cX2_borrowSums 55 = .ok (.invokevirtual 127, 3) := by decide +kernel
theorem dX2_borrowSums_58 : decode cX2_borrowSums 58 = .ok (.iinc 2 1, 3) := by decide +kernel
theorem dX2_borrowSums_61 : decode cX2_borrowSums 61 = .ok (.goto (-50), 3) := by decide +kernel
theorem dX2_borrowSums_64 : decode cX2_borrowSums 64 = .ok (.return_, 1) := by decide +kernel
theorem dX2_addCandidates_0 : decode cX2_addCandidates 0 = .ok (.iconst 0, 1) := by decide +kernel
theorem dX2_addCandidates_1 : decode cX2_addCandidates 1 = .ok (.istore_n 3, 1) := by decide +kernel
theorem dX2_addCandidates_2 : decode cX2_addCandidates 2 = .ok (.iload_n 3, 1) := by decide +kernel
theorem dX2_addCandidates_3 : decode cX2_addCandidates 3 = .ok (.bipush 8, 2) := by decide +kernel
theorem dX2_addCandidates_5 : decode cX2_addCandidates 5 = .ok (.if_icmp .ge 52, 3) := by decide +kernel
theorem dX2_addCandidates_8 : decode cX2_addCandidates 8 = .ok (.aload_n 0, 1) := by decide +kernel
theorem dX2_addCandidates_9 : decode cX2_addCandidates 9 = .ok (.getfield 43, 3) := by decide +kernel
theorem dX2_addCandidates_12 : decode cX2_addCandidates 12 = .ok (.iload_n 1, 1) := by decide +kernel
theorem dX2_addCandidates_13 : decode cX2_addCandidates 13 = .ok (.iload_n 3, 1) := by decide +kernel
theorem dX2_addCandidates_14 : decode cX2_addCandidates 14 = .ok (.invokevirtual 131, 3) := by decide +kernel
theorem dX2_addCandidates_17 : decode cX2_addCandidates 17 = .ok (.ifCond .eq 34, 3) := by decide +kernel
theorem dX2_addCandidates_20 : decode cX2_addCandidates 20 = .ok (.aload_n 0, 1) := by decide +kernel
theorem dX2_addCandidates_21 : decode cX2_addCandidates 21 = .ok (.getfield 43, 3) := by decide +kernel
theorem dX2_addCandidates_24 : decode cX2_addCandidates 24 = .ok (.iload_n 2, 1) := by decide +kernel
theorem dX2_addCandidates_25 : decode cX2_addCandidates 25 = .ok (.iload_n 3, 1) := by decide +kernel
theorem dX2_addCandidates_26 : decode cX2_addCandidates 26 = .ok (.invokevirtual 131, 3) := by decide +kernel
theorem dX2_addCandidates_29 : decode cX2_addCandidates 29 = .ok (.ifCond .eq 22, 3) := by decide +kernel
theorem dX2_addCandidates_32 : decode cX2_addCandidates 32 = .ok (.aload_n 0, 1) := by decide +kernel
theorem dX2_addCandidates_33 : decode cX2_addCandidates 33 = .ok (.getfield 11, 3) := by decide +kernel
theorem dX2_addCandidates_36 : decode cX2_addCandidates 36 = .ok (.iload_n 1, 1) := by decide +kernel
theorem dX2_addCandidates_37 : decode cX2_addCandidates 37 = .ok (.aaload, 1) := by decide +kernel
theorem dX2_addCandidates_38 : decode cX2_addCandidates 38 = .ok (.iload_n 3, 1) := by decide +kernel
theorem dX2_addCandidates_39 : decode cX2_addCandidates 39 = .ok (.dup2, 1) := by decide +kernel
theorem dX2_addCandidates_40 : decode cX2_addCandidates 40 = .ok (.iaload, 1) := by decide +kernel
theorem dX2_addCandidates_41 : decode cX2_addCandidates 41 = .ok (.aload_n 0, 1) := by decide +kernel
theorem dX2_addCandidates_42 : decode cX2_addCandidates 42 = .ok (.getfield 11, 3) := by decide +kernel
theorem dX2_addCandidates_45 : decode cX2_addCandidates 45 = .ok (.iload_n 2, 1) := by decide +kernel
theorem dX2_addCandidates_46 : decode cX2_addCandidates 46 = .ok (.aaload, 1) := by decide +kernel
theorem dX2_addCandidates_47 : decode cX2_addCandidates 47 = .ok (.iload_n 3, 1) := by decide +kernel
theorem dX2_addCandidates_48 : decode cX2_addCandidates 48 = .ok (.iaload, 1) := by decide +kernel
theorem dX2_addCandidates_49 : decode cX2_addCandidates 49 = .ok (.iadd, 1) := by decide +kernel
theorem dX2_addCandidates_50 : decode cX2_addCandidates 50 = .ok (.iastore, 1) := by decide +kernel
theorem dX2_addCandidates_51 : decode cX2_addCandidates 51 = .ok (.iinc 3 1, 3) := by decide +kernel
theorem dX2_addCandidates_54 : decode cX2_addCandidates 54 = .ok (.goto (-52), 3) := by decide +kernel
theorem dX2_addCandidates_57 : decode cX2_addCandidates 57 = .ok (.return_, 1) := by decide +kernel
theorem dX2_givePoints_0 : decode cX2_givePoints 0 = .ok (.aload_n 0, 1) := by decide +kernel
theorem dX2_givePoints_1 : decode cX2_givePoints 1 = .ok (.getfield 19, 3) := by decide +kernel
theorem dX2_givePoints_4 : decode cX2_givePoints 4 = .ok (.iload_n 1, 1) := by decide +kernel
theorem dX2_givePoints_5 : decode cX2_givePoints 5 = .ok (.aaload, 1) := by decide +kernel
theorem dX2_givePoints_6 : decode cX2_givePoints 6 = .ok (.invokestatic 95, 3) := by decide +kernel
theorem dX2_givePoints_9 : decode cX2_givePoints 9 = .ok (.iconst 0, 1) := by decide +kernel
theorem dX2_givePoints_10 : decode cX2_givePoints 10 = .ok (.istore_n 2, 1) := by decide +kernel
theorem dX2_givePoints_11 : decode cX2_givePoints 11 = .ok (.iload_n 2, 1) := by decide +kernel
theorem dX2_givePoints_12 : decode cX2_givePoints 12 = .ok (.aload_n 0, 1) := by decide +kernel
theorem dX2_givePoints_13 : decode cX2_givePoints 13 = .ok (.getfield 22, 3) := by decide +kernel
theorem dX2_givePoints_16 : decode cX2_givePoints 16 = .ok (.iload_n 1, 1) := by decide +kernel
theorem dX2_givePoints_17 : decode cX2_givePoints 17 = .ok (.iaload, 1) := by decide +kernel
theorem dX2_givePoints_18 : decode cX2_givePoints 18 = .ok (.if_icmp .ge 45, 3) := by decide +kernel
theorem dX2_givePoints_21 : decode cX2_givePoints 21 = .ok (.aload_n 0, 1) := by decide +kernel
theorem dX2_givePoints_22 : decode cX2_givePoints 22 = .ok (.getfield 16, 3) := by decide +kernel
theorem dX2_givePoints_25 : decode cX2_givePoints 25 = .ok (.iload_n 1, 1) := by decide +kernel
theorem dX2_givePoints_26 : decode cX2_givePoints 26 = .ok (.aaload, 1) := by decide +kernel
theorem dX2_givePoints_27 : decode cX2_givePoints 27 = .ok (.iload_n 2, 1) := by decide +kernel
theorem dX2_givePoints_28 : decode cX2_givePoints 28 = .ok (.iaload, 1) := by decide +kernel
theorem dX2_givePoints_29 : decode cX2_givePoints 29 = .ok (.istore_n 3, 1) := by decide +kernel
theorem dX2_givePoints_30 : decode cX2_givePoints 30 = .ok (.aload_n 0, 1) := by decide +kernel
theorem dX2_givePoints_31 : decode cX2_givePoints 31 = .ok (.getfield 19, 3) := by decide +kernel
theorem dX2_givePoints_34 : decode cX2_givePoints 34 = .ok (.iload_n 1, 1) := by decide +kernel
theorem dX2_givePoints_35 : decode cX2_givePoints 35 = .ok (.aaload, 1) := by decide +kernel
theorem dX2_givePoints_36 : decode cX2_givePoints 36 = .ok (.iload_n 3, 1) := by decide +kernel
theorem dX2_givePoints_37 : decode cX2_givePoints 37 = .ok (.aload_n 0, 1) := by decide +kernel
theorem dX2_givePoints_38 : decode cX2_givePoints 38 = .ok (.getfield 11, 3) := by decide +kernel
theorem dX2_givePoints_41 : decode cX2_givePoints 41 = .ok (.iload_n 1, 1) := by decide +kernel
theorem dX2_givePoints_42 : decode cX2_givePoints 42 = .ok (.aaload, 1) := by decide +kernel
theorem dX2_givePoints_43 : decode cX2_givePoints 43 = .ok (.iload_n 3, 1) := by decide +kernel
theorem dX2_givePoints_44 : decode cX2_givePoints 44 = .ok (.iaload, 1) := by decide +kernel
theorem dX2_givePoints_45 : decode cX2_givePoints 45 = .ok (.ifCond .le 10, 3) := by decide +kernel
theorem dX2_givePoints_48 : decode cX2_givePoints 48 = .ok (.iload_n 2, 1) := by decide +kernel
theorem dX2_givePoints_49 : decode cX2_givePoints 49 = .ok (.invokestatic 134, 3) := by decide +kernel
theorem dX2_givePoints_52 : decode cX2_givePoints 52 = .ok (.goto 4, 3) := by decide +kernel
theorem dX2_givePoints_55 : decode cX2_givePoints 55 = .ok (.iconst 0, 1) := by decide +kernel
theorem dX2_givePoints_56 : decode cX2_givePoints 56 = .ok (.iastore, 1) := by decide +kernel
theorem dX2_givePoints_57 : decode cX2_givePoints 57 = .ok (.iinc 2 1, 3) := by decide +kernel
theorem dX2_givePoints_60 : decode cX2_givePoints 60 = .ok (.goto (-49), 3) := by decide +kernel
theorem dX2_givePoints_63 : decode cX2_givePoints 63 = .ok (.return_, 1) := by decide +kernel
theorem dX2_topOf_0 : decode cX2_topOf 0 = .ok (.iconst 0, 1) := by decide +kernel
theorem dX2_topOf_1 : decode cX2_topOf 1 = .ok (.istore_n 2, 1) := by decide +kernel
theorem dX2_topOf_2 : decode cX2_topOf 2 = .ok (.iload_n 2, 1) := by decide +kernel
theorem dX2_topOf_3 : decode cX2_topOf 3 = .ok (.bipush 8, 2) := by decide +kernel
theorem dX2_topOf_5 : decode cX2_topOf 5 = .ok (.if_icmp .ge 24, 3) := by decide +kernel
theorem dX2_topOf_8 : decode cX2_topOf 8 = .ok (.aload_n 0, 1) := by decide +kernel
theorem dX2_topOf_9 : decode cX2_topOf 9 = .ok (.getfield 19, 3) := by decide +kernel
theorem dX2_topOf_12 : decode cX2_topOf 12 = .ok (.iload_n 1, 1) := by decide +kernel
theorem dX2_topOf_13 : decode cX2_topOf 13 = .ok (.aaload, 1) := by decide +kernel
theorem dX2_topOf_14 : decode cX2_topOf 14 = .ok (.iload_n 2, 1) := by decide +kernel
theorem dX2_topOf_15 : decode cX2_topOf 15 = .ok (.iaload, 1) := by decide +kernel
theorem dX2_topOf_16 : decode cX2_topOf 16 = .ok (.bipush 12, 2) := by decide +kernel
theorem dX2_topOf_18 : decode cX2_topOf 18 = .ok (.if_icmp .ne 5, 3) := by decide +kernel
theorem dX2_topOf_21 : decode cX2_topOf 21 = .ok (.iload_n 2, 1) := by decide +kernel
theorem dX2_topOf_22 : decode cX2_topOf 22 = .ok (.ireturn, 1) := by decide +kernel
theorem dX2_topOf_23 : decode cX2_topOf 23 = .ok (.iinc 2 1, 3) := by decide +kernel
theorem dX2_topOf_26 : decode cX2_topOf 26 = .ok (.goto (-24), 3) := by decide +kernel
theorem dX2_topOf_29 : decode cX2_topOf 29 = .ok (.iconst (-1), 1) := by decide +kernel
theorem dX2_topOf_30 : decode cX2_topOf 30 = .ok (.ireturn, 1) := by decide +kernel
theorem dX2_clearRow_0 : decode cX2_clearRow 0 = .ok (.iconst 0, 1) := by decide +kernel
theorem dX2_clearRow_1 : decode cX2_clearRow 1 = .ok (.istore_n 1, 1) := by decide +kernel
theorem dX2_clearRow_2 : decode cX2_clearRow 2 = .ok (.iload_n 1, 1) := by decide +kernel
theorem dX2_clearRow_3 : decode cX2_clearRow 3 = .ok (.aload_n 0, 1) := by decide +kernel
theorem dX2_clearRow_4 : decode cX2_clearRow 4 = .ok (.arraylength, 1) := by decide +kernel
theorem dX2_clearRow_5 : decode cX2_clearRow 5 = .ok (.if_icmp .ge 13, 3) := by decide +kernel
theorem dX2_clearRow_8 : decode cX2_clearRow 8 = .ok (.aload_n 0, 1) := by decide +kernel
theorem dX2_clearRow_9 : decode cX2_clearRow 9 = .ok (.iload_n 1, 1) := by decide +kernel
theorem dX2_clearRow_10 : decode cX2_clearRow 10 = .ok (.iconst 0, 1) := by decide +kernel
theorem dX2_clearRow_11 : decode cX2_clearRow 11 = .ok (.iastore, 1) := by decide +kernel
theorem dX2_clearRow_12 : decode cX2_clearRow 12 = .ok (.iinc 1 1, 3) := by decide +kernel
theorem dX2_clearRow_15 : decode cX2_clearRow 15 = .ok (.goto (-13), 3) := by decide +kernel
theorem dX2_clearRow_18 : decode cX2_clearRow 18 = .ok (.return_, 1) := by decide +kernel
theorem dX3_init_0 : decode cX3_init 0 = .ok (.aload_n 0, 1) := by decide +kernel
theorem dX3_init_1 : decode cX3_init 1 = .ok (.invokespecial 3, 3) := by decide +kernel
theorem dX3_init_4 : decode cX3_init 4 = .ok (.aload_n 0, 1) := by decide +kernel
theorem dX3_init_5 : decode cX3_init 5 = .ok (.iconst 0, 1) := by decide +kernel
theorem dX3_init_6 : decode cX3_init 6 = .ok (.putfield 9, 3) := by decide +kernel
theorem dX3_init_9 : decode cX3_init 9 = .ok (.aload_n 0, 1) := by decide +kernel
theorem dX3_init_10 : decode cX3_init 10 = .ok (.bipush 8, 2) := by decide +kernel
theorem dX3_init_12 : decode cX3_init 12 = .ok (.newarray .int, 2) := by decide +kernel
theorem dX3_init_14 : decode cX3_init 14 = .ok (.putfield 15, 3) := by decide +kernel
theorem dX3_init_17 : decode cX3_init 17 = .ok (.aload_n 0, 1) := by decide +kernel
theorem dX3_init_18 : decode cX3_init 18 = .ok (.bipush 8, 2) := by decide +kernel
theorem dX3_init_20 : decode cX3_init 20 = .ok (.newarray .int, 2) := by decide +kernel
theorem dX3_init_22 : decode cX3_init 22 = .ok (.putfield 19, 3) := by decide +kernel
theorem dX3_init_25 : decode cX3_init 25 = .ok (.aload_n 0, 1) := by decide +kernel
theorem dX3_init_26 : decode cX3_init 26 = .ok (.bipush 8, 2) := by decide +kernel
theorem dX3_init_28 : decode cX3_init 28 = .ok (.newarray .int, 2) := by decide +kernel
theorem dX3_init_30 : decode cX3_init 30 = .ok (.putfield 22, 3) := by decide +kernel
theorem dX3_init_33 : decode cX3_init 33 = .ok (.aload_n 0, 1) := by decide +kernel
theorem dX3_init_34 : decode cX3_init 34 = .ok (.bipush 8, 2) := by decide +kernel
theorem dX3_init_36 : decode cX3_init 36 = .ok (.newarray .int, 2) := by decide +kernel
theorem dX3_init_38 : decode cX3_init 38 = .ok (.putfield 25, 3) := by decide +kernel
theorem dX3_init_41 : decode cX3_init 41 = .ok (.aload_n 0, 1) := by decide +kernel
theorem dX3_init_42 : decode cX3_init 42 = .ok (.bipush 8, 2) := by decide +kernel
theorem dX3_init_44 : decode cX3_init 44 = .ok (.newarray .int, 2) := by decide +kernel
theorem dX3_init_46 : decode cX3_init 46 = .ok (.putfield 28, 3) := by decide +kernel
theorem dX3_init_49 : decode cX3_init 49 = .ok (.return_, 1) := by decide +kernel
theorem dX3_add_0 : decode cX3_add 0 = .ok (.aload_n 0, 1) := by decide +kernel
theorem dX3_add_1 : decode cX3_add 1 = .ok (.getfield 9, 3) := by decide +kernel
theorem dX3_add_4 : decode cX3_add 4 = .ok (.bipush 8, 2) := by decide +kernel
theorem dX3_add_6 : decode cX3_add 6 = .ok (.if_icmp .lt 5, 3) := by decide +kernel
theorem dX3_add_9 : decode cX3_add 9 = .ok (.iconst (-1), 1) := by decide +kernel
theorem dX3_add_10 : decode cX3_add 10 = .ok (.ireturn, 1) := by decide +kernel
theorem dX3_add_11 : decode cX3_add 11 = .ok (.aload_n 0, 1) := by decide +kernel
theorem dX3_add_12 : decode cX3_add 12 = .ok (.getfield 15, 3) := by decide +kernel
theorem dX3_add_15 : decode cX3_add 15 = .ok (.aload_n 0, 1) := by decide +kernel
theorem dX3_add_16 : decode cX3_add 16 = .ok (.getfield 9, 3) := by decide +kernel
theorem dX3_add_19 : decode cX3_add 19 = .ok (.iload_n 1, 1) := by decide +kernel
theorem dX3_add_20 : decode cX3_add 20 = .ok (.iastore, 1) := by decide +kernel
theorem dX3_add_21 : decode cX3_add 21 = .ok (.aload_n 0, 1) := by decide +kernel
theorem dX3_add_22 : decode cX3_add 22 = .ok (.getfield 19, 3) := by decide +kernel
theorem dX3_add_25 : decode cX3_add 25 = .ok (.aload_n 0, 1) := by decide +kernel
theorem dX3_add_26 : decode cX3_add 26 = .ok (.getfield 9, 3) := by decide +kernel
theorem dX3_add_29 : decode cX3_add 29 = .ok (.iload_n 2, 1) := by decide +kernel
theorem dX3_add_30 : decode cX3_add 30 = .ok (.iastore, 1) := by decide +kernel
theorem dX3_add_31 : decode cX3_add 31 = .ok (.aload_n 0, 1) := by decide +kernel
theorem dX3_add_32 : decode cX3_add 32 = .ok (.getfield 22, 3) := by decide +kernel
theorem dX3_add_35 : decode cX3_add 35 = .ok (.aload_n 0, 1) := by decide +kernel
theorem dX3_add_36 : decode cX3_add 36 = .ok (.getfield 9, 3) := by decide +kernel
theorem dX3_add_39 : decode cX3_add 39 = .ok (.bipush 100, 2) := by decide +kernel
theorem dX3_add_41 : decode cX3_add 41 = .ok (.iastore, 1) := by decide +kernel
theorem dX3_add_42 : decode cX3_add 42 = .ok (.aload_n 0, 1) := by decide +kernel
theorem dX3_add_43 : decode cX3_add 43 = .ok (.dup, 1) := by decide +kernel
theorem dX3_add_44 : decode cX3_add 44 = .ok (.getfield 9, 3) := by decide +kernel
theorem dX3_add_47 : decode cX3_add 47 = .ok (.iconst 1, 1) := by decide +kernel
theorem dX3_add_48 : decode cX3_add 48 = .ok (.iadd, 1) := by decide +kernel
theorem dX3_add_49 : decode cX3_add 49 = .ok (.putfield 9, 3) := by decide +kernel
theorem dX3_add_52 : decode cX3_add 52 = .ok (.aload_n 0, 1) := by decide +kernel
theorem dX3_add_53 : decode cX3_add 53 = .ok (.getfield 9, 3) := by decide +kernel
theorem dX3_add_56 : decode cX3_add 56 = .ok (.iconst 1, 1) := by decide +kernel
theorem dX3_add_57 : decode cX3_add 57 = .ok (.isub, 1) := by decide +kernel
theorem dX3_add_58 : decode cX3_add 58 = .ok (.ireturn, 1) := by decide +kernel
theorem dX4_init_0 : decode cX4_init 0 = .ok (.aload_n 0, 1) := by decide +kernel
theorem dX4_init_1 : decode cX4_init 1 = .ok (.invokespecial 3, 3) := by decide +kernel
theorem dX4_init_4 : decode cX4_init 4 = .ok (.aload_n 0, 1) := by decide +kernel
theorem dX4_init_5 : decode cX4_init 5 = .ok (.bipush 80, 2) := by decide +kernel
theorem dX4_init_7 : decode cX4_init 7 = .ok (.bipush 8, 2) := by decide +kernel
theorem dX4_init_9 : decode cX4_init 9 = .ok (.multianewarray 9 2, 4) := by decide +kernel
theorem dX4_init_13 : decode cX4_init 13 = .ok (.putfield 11, 3) := by decide +kernel
theorem dX4_init_16 : decode cX4_init 16 = .ok (.aload_n 0, 1) := by decide +kernel
theorem dX4_init_17 : decode cX4_init 17 = .ok (.bipush 80, 2) := by decide +kernel
theorem dX4_init_19 : decode cX4_init 19 = .ok (.newarray .int, 2) := by decide +kernel
theorem dX4_init_21 : decode cX4_init 21 = .ok (.putfield 16, 3) := by decide +kernel
theorem dX4_init_24 : decode cX4_init 24 = .ok (.aload_n 0, 1) := by decide +kernel
theorem dX4_init_25 : decode cX4_init 25 = .ok (.bipush 8, 2) := by decide +kernel
theorem dX4_init_27 : decode cX4_init 27 = .ok (.bipush 8, 2) := by decide +kernel
theorem dX4_init_29 : decode cX4_init 29 = .ok (.multianewarray 9 2, 4) := by decide +kernel
theorem dX4_init_33 : decode cX4_init 33 = .ok (.putfield 20, 3) := by decide +kernel
theorem dX4_init_36 : decode cX4_init 36 = .ok (.aload_n 0, 1) := by decide +kernel
theorem dX4_init_37 : decode cX4_init 37 = .ok (.bipush 8, 2) := by decide +kernel
theorem dX4_init_39 : decode cX4_init 39 = .ok (.bipush 8, 2) := by decide +kernel
theorem dX4_init_41 : decode cX4_init 41 = .ok (.multianewarray 9 2, 4) := by decide +kernel
theorem dX4_init_45 : decode cX4_init 45 = .ok (.putfield 23, 3) := by decide +kernel
theorem dX4_init_48 : decode cX4_init 48 = .ok (.aload_n 0, 1) := by decide +kernel
theorem dX4_init_49 : decode cX4_init 49 = .ok (.bipush 8, 2) := by decide +kernel
theorem dX4_init_51 : decode cX4_init 51 = .ok (.bipush 8, 2) := by decide +kernel
theorem dX4_init_53 : decode cX4_init 53 = .ok (.multianewarray 9 2, 4) := by decide +kernel
theorem dX4_init_57 : decode cX4_init 57 = .ok (.putfield 26, 3) := by decide +kernel
theorem dX4_init_60 : decode cX4_init 60 = .ok (.aload_n 0, 1) := by decide +kernel
theorem dX4_init_61 : decode cX4_init 61 = .ok (.bipush 8, 2) := by decide +kernel
theorem dX4_init_63 : decode cX4_init 63 = .ok (.newarray .int, 2) := by decide +kernel
theorem dX4_init_65 : decode cX4_init 65 = .ok (.putfield 29, 3) := by decide +kernel
theorem dX4_init_68 : decode cX4_init 68 = .ok (.aload_n 0, 1) := by decide +kernel
theorem dX4_init_69 : decode cX4_init 69 = .ok (.bipush 8, 2) := by decide +kernel
theorem dX4_init_71 : decode cX4_init 71 = .ok (.newarray .int, 2) := by decide +kernel
theorem dX4_init_73 : decode cX4_init 73 = .ok (.putfield 32, 3) := by decide +kernel
theorem dX4_init_76 : decode cX4_init 76 = .ok (.aload_n 0, 1) := by decide +kernel
theorem dX4_init_77 : decode cX4_init 77 = .ok (.bipush 8, 2) := by decide +kernel
theorem dX4_init_79 : decode cX4_init 79 = .ok (.newarray .int, 2) := by decide +kernel
theorem dX4_init_81 : decode cX4_init 81 = .ok (.putfield 35, 3) := by decide +kernel
theorem dX4_init_84 : decode cX4_init 84 = .ok (.aload_n 0, 1) := by decide +kernel
theorem dX4_init_85 : decode cX4_init 85 = .ok (.bipush 8, 2) := by decide +kernel
theorem dX4_init_87 : decode cX4_init 87 = .ok (.newarray .int, 2) := by decide +kernel
theorem dX4_init_89 : decode cX4_init 89 = .ok (.putfield 38, 3) := by decide +kernel
theorem dX4_init_92 : decode cX4_init 92 = .ok (.aload_n 0, 1) := by decide +kernel
theorem dX4_init_93 : decode cX4_init 93 = .ok (.bipush 8, 2) := by decide +kernel
theorem dX4_init_95 : decode cX4_init 95 = .ok (.newarray .int, 2) := by decide +kernel
theorem dX4_init_97 : decode cX4_init 97 = .ok (.putfield 41, 3) := by decide +kernel
theorem dX4_init_100 : decode cX4_init 100 = .ok (.aload_n 0, 1) := by decide +kernel
theorem dX4_init_101 : decode cX4_init 101 = .ok (.aload_n 1, 1) := by decide +kernel
theorem dX4_init_102 : decode cX4_init 102 = .ok (.putfield 44, 3) := by decide +kernel
theorem dX4_init_105 : decode cX4_init 105 = .ok (.return_, 1) := by decide +kernel
theorem dX4_lineOf_0 : decode cX4_lineOf 0 = .ok (.iload_n 0, 1) := by decide +kernel
theorem dX4_lineOf_1 : decode cX4_lineOf 1 = .ok (.bipush 10, 2) := by decide +kernel
theorem dX4_lineOf_3 : decode cX4_lineOf 3 = .ok (.imul, 1) := by decide +kernel
theorem dX4_lineOf_4 : decode cX4_lineOf 4 = .ok (.iload_n 1, 1) := by decide +kernel
theorem dX4_lineOf_5 : decode cX4_lineOf 5 = .ok (.iadd, 1) := by decide +kernel
theorem dX4_lineOf_6 : decode cX4_lineOf 6 = .ok (.ireturn, 1) := by decide +kernel
theorem dX4_take_0 : decode cX4_take 0 = .ok (.iload_n 1, 1) := by decide +kernel
theorem dX4_take_1 : decode cX4_take 1 = .ok (.iload_n 2, 1) := by decide +kernel
theorem dX4_take_2 : decode cX4_take 2 = .ok (.invokestatic 48, 3) := by decide +kernel
theorem dX4_take_5 : decode cX4_take 5 = .ok (.istore 6, 2) := by decide +kernel
theorem dX4_take_7 : decode cX4_take 7 = .ok (.iconst 0, 1) := by decide +kernel
theorem dX4_take_8 : decode cX4_take 8 = .ok (.iload 4, 2) := by decide +kernel
theorem dX4_take_10 : decode cX4_take 10 = .ok (.iload 5, 2) := by decide +kernel
theorem dX4_take_12 : decode cX4_take 12 = .ok (.aload_n 0, 1) := by decide +kernel
theorem dX4_take_13 : decode cX4_take 13 = .ok (.getfield 16, 3) := by decide +kernel
theorem dX4_take_16 : decode cX4_take 16 = .ok (.iload 6, 2) := by decide +kernel
theorem dX4_take_18 : decode cX4_take 18 = .ok (.iaload, 1) := by decide +kernel
theorem dX4_take_19 : decode cX4_take 19 = .ok (.isub, 1) := by decide +kernel
theorem dX4_take_20 : decode cX4_take 20 = .ok (.invokestatic 52, 3) := by decide +kernel
theorem dX4_take_23 : decode cX4_take 23 = .ok (.invokestatic 57, 3) := by decide +kernel
theorem dX4_take_26 : decode cX4_take 26 = .ok (.istore 7, 2) := by decide +kernel
theorem dX4_take_28 : decode cX4_take 28 = .ok (.aload_n 0, 1) := by decide +kernel
theorem dX4_take_29 : decode cX4_take 29 = .ok (.getfield 16, 3) := by decide +kernel
theorem dX4_take_32 : decode cX4_take 32 = .ok (.iload 6, 2) := by decide +kernel
theorem dX4_take_34 : decode cX4_take 34 = .ok (.dup2, 1) := by decide +kernel
theorem dX4_take_35 : decode cX4_take 35 = .ok (.iaload, 1) := by decide +kernel
theorem dX4_take_36 : decode cX4_take 36 = .ok (.iload 7, 2) := by decide +kernel
theorem dX4_take_38 : decode cX4_take 38 = .ok (.iadd, 1) := by decide +kernel
theorem dX4_take_39 : decode cX4_take 39 = .ok (.iastore, 1) := by decide +kernel
theorem dX4_take_40 : decode cX4_take 40 = .ok (.aload_n 0, 1) := by decide +kernel
theorem dX4_take_41 : decode cX4_take 41 = .ok (.getfield 11, 3) := by decide +kernel
theorem dX4_take_44 : decode cX4_take 44 = .ok (.iload 6, 2) := by decide +kernel
theorem dX4_take_46 : decode cX4_take 46 = .ok (.aaload, 1) := by decide +kernel
theorem dX4_take_47 : decode cX4_take 47 = .ok (.iload_n 3, 1) := by decide +kernel
theorem dX4_take_48 : decode cX4_take 48 = .ok (.dup2, 1) := by decide +kernel
theorem dX4_take_49 : decode cX4_take 49 = .ok (.iaload, 1) := by decide +kernel
theorem dX4_take_50 : decode cX4_take 50 = .ok (.iload 7, 2) := by decide +kernel
theorem dX4_take_52 : decode cX4_take 52 = .ok (.iadd, 1) := by decide +kernel
theorem dX4_take_53 : decode cX4_take 53 = .ok (.iastore, 1) := by decide +kernel
theorem dX4_take_54 : decode cX4_take 54 = .ok (.iload 7, 2) := by decide +kernel
theorem dX4_take_56 : decode cX4_take 56 = .ok (.ireturn, 1) := by decide +kernel
theorem dX4_clear_0 : decode cX4_clear 0 = .ok (.iconst 0, 1) := by decide +kernel
theorem dX4_clear_1 : decode cX4_clear 1 = .ok (.istore_n 1, 1) := by decide +kernel
theorem dX4_clear_2 : decode cX4_clear 2 = .ok (.iload_n 1, 1) := by decide +kernel
theorem dX4_clear_3 : decode cX4_clear 3 = .ok (.bipush 80, 2) := by decide +kernel
theorem dX4_clear_5 : decode cX4_clear 5 = .ok (.if_icmp .ge 39, 3) := by decide +kernel
theorem dX4_clear_8 : decode cX4_clear 8 = .ok (.aload_n 0, 1) := by decide +kernel
theorem dX4_clear_9 : decode cX4_clear 9 = .ok (.getfield 16, 3) := by decide +kernel
theorem dX4_clear_12 : decode cX4_clear 12 = .ok (.iload_n 1, 1) := by decide +kernel
theorem dX4_clear_13 : decode cX4_clear 13 = .ok (.iconst 0, 1) := by decide +kernel
theorem dX4_clear_14 : decode cX4_clear 14 = .ok (.iastore, 1) := by decide +kernel
theorem dX4_clear_15 : decode cX4_clear 15 = .ok (.iconst 0, 1) := by decide +kernel
theorem dX4_clear_16 : decode cX4_clear 16 = .ok (.istore_n 2, 1) := by decide +kernel
theorem dX4_clear_17 : decode cX4_clear 17 = .ok (.iload_n 2, 1) := by decide +kernel
theorem dX4_clear_18 : decode cX4_clear 18 = .ok (.bipush 8, 2) := by decide +kernel
theorem dX4_clear_20 : decode cX4_clear 20 = .ok (.if_icmp .ge 18, 3) := by decide +kernel
theorem dX4_clear_23 : decode cX4_clear 23 = .ok (.aload_n 0, 1) := by decide +kernel
theorem dX4_clear_24 : decode cX4_clear 24 = .ok (.getfield 11, 3) := by decide +kernel
theorem dX4_clear_27 : decode cX4_clear 27 = .ok (.iload_n 1, 1) := by decide +kernel
theorem dX4_clear_28 : decode cX4_clear 28 = .ok (.aaload, 1) := by decide +kernel
theorem dX4_clear_29 : decode cX4_clear 29 = .ok (.iload_n 2, 1) := by decide +kernel
theorem dX4_clear_30 : decode cX4_clear 30 = .ok (.iconst 0, 1) := by decide +kernel
theorem dX4_clear_31 : decode cX4_clear 31 = .ok (.iastore, 1) := by decide +kernel
theorem dX4_clear_32 : decode cX4_clear 32 = .ok (.iinc 2 1, 3) := by decide +kernel
theorem dX4_clear_35 : decode cX4_clear 35 = .ok (.goto (-18), 3) := by decide +kernel
theorem dX4_clear_38 : decode cX4_clear 38 = .ok (.iinc 1 1, 3) := by decide +kernel
theorem dX4_clear_41 : decode cX4_clear 41 = .ok (.goto (-39), 3) := by decide +kernel
theorem dX4_clear_44 : decode cX4_clear 44 = .ok (.return_, 1) := by decide +kernel
theorem dX4_countLand_0 : decode cX4_countLand 0 = .ok (.aload_n 0, 1) := by decide +kernel
theorem dX4_countLand_1 : decode cX4_countLand 1 = .ok (.getfield 29, 3) := by decide +kernel
theorem dX4_countLand_4 : decode cX4_countLand 4 = .ok (.iload_n 1, 1) := by decide +kernel
theorem dX4_countLand_5 : decode cX4_countLand 5 = .ok (.iconst 0, 1) := by decide +kernel
theorem dX4_countLand_6 : decode cX4_countLand 6 = .ok (.iastore, 1) := by decide +kernel
theorem dX4_countLand_7 : decode cX4_countLand 7 = .ok (.aload_n 0, 1) := by decide +kernel
theorem dX4_countLand_8 : decode cX4_countLand 8 = .ok (.getfield 32, 3) := by decide +kernel
theorem dX4_countLand_11 : decode cX4_countLand 11 = .ok (.iload_n 1, 1) := by decide +kernel
theorem dX4_countLand_12 : decode cX4_countLand 12 = .ok (.iconst 0, 1) := by decide +kernel
theorem dX4_countLand_13 : decode cX4_countLand 13 = .ok (.iastore, 1) := by decide +kernel
theorem dX4_countLand_14 : decode cX4_countLand 14 = .ok (.iconst 0, 1) := by decide +kernel
theorem dX4_countLand_15 : decode cX4_countLand 15 = .ok (.istore_n 3, 1) := by decide +kernel
theorem dX4_countLand_16 : decode cX4_countLand 16 = .ok (.iload_n 3, 1) := by decide +kernel
theorem dX4_countLand_17 : decode cX4_countLand 17 = .ok (.bipush 8, 2) := by decide +kernel
theorem dX4_countLand_19 : decode cX4_countLand 19 = .ok (.if_icmp .ge 45, 3) := by decide +kernel
theorem dX4_countLand_22 : decode cX4_countLand 22 = .ok (.aload_n 0, 1) := by decide +kernel
theorem dX4_countLand_23 : decode cX4_countLand 23 = .ok (.iload_n 1, 1) := by decide +kernel
theorem dX4_countLand_24 : decode cX4_countLand 24 = .ok (.iload_n 3, 1) := by decide +kernel
theorem dX4_countLand_25 : decode cX4_countLand 25 = .ok (.iload_n 2, 1) := by decide +kernel
theorem dX4_countLand_26 : decode cX4_countLand 26 = .ok (.invokevirtual 60, 3) := by decide +kernel
theorem dX4_countLand_29 : decode cX4_countLand 29 = .ok (.aload_n 0, 1) := by decide +kernel
theorem dX4_countLand_30 : decode cX4_countLand 30 = .ok (.getfield 44, 3) := by decide +kernel
theorem dX4_countLand_33 : decode cX4_countLand 33 = .ok (.iload_n 1, 1) := by decide +kernel
theorem dX4_countLand_34 : decode cX4_countLand 34 = .ok (.iload_n 3, 1) := by decide +kernel
theorem dX4_countLand_35 : decode cX4_countLand 35 = .ok (.invokevirtual 64, 3) := by decide +kernel
theorem dX4_countLand_38 : decode cX4_countLand 38 = .ok (.ifCond .eq 20, 3) := by decide +kernel
theorem dX4_countLand_41 : decode cX4_countLand 41 = .ok (.aload_n 0, 1) := by decide +kernel
theorem dX4_countLand_42 : decode cX4_countLand 42 = .ok (.getfield 29, 3) := by decide +kernel
theorem dX4_countLand_45 : decode cX4_countLand 45 = .ok (.iload_n 1, 1) := by decide +kernel
theorem dX4_countLand_46 : decode cX4_countLand 46 = .ok (.dup2, 1) := by decide +kernel
theorem dX4_countLand_47 : decode cX4_countLand 47 = .ok (.iaload, 1) := by decide +kernel
theorem dX4_countLand_48 : decode cX4_countLand 48 = .ok (.aload_n 0, 1) := by decide +kernel
theorem dX4_countLand_49 : decode cX4_countLand 49 = .ok (.getfield 20, 3) := by decide +kernel
theorem dX4_countLand_52 : decode cX4_countLand 52 = .ok (.iload_n 1, 1) := by decide +kernel
theorem dX4_countLand_53 : decode cX4_countLand 53 = .ok (.aaload, 1) := by decide +kernel
theorem dX4_countLand_54 : decode cX4_countLand 54 = .ok (.iload_n 3, 1) := by decide +kernel
theorem dX4_countLand_55 : decode cX4_countLand 55 = .ok (.iaload, 1) := by decide +kernel
theorem dX4_countLand_56 : decode cX4_countLand 56 = .ok (.iadd, 1) := by decide +kernel
theorem dX4_countLand_57 : decode cX4_countLand 57 = .ok (.iastore, 1) := by decide +kernel
theorem dX4_countLand_58 : decode cX4_countLand 58 = .ok (.iinc 3 1, 3) := by decide +kernel
theorem dX4_countLand_61 : decode cX4_countLand 61 = .ok (.goto (-45), 3) := by decide +kernel
theorem dX4_countLand_64 : decode cX4_countLand 64 = .ok (.return_, 1) := by decide +kernel
theorem dX4_countSong_0 : decode cX4_countSong 0 = .ok (.aload_n 0, 1) := by decide +kernel
theorem dX4_countSong_1 : decode cX4_countSong 1 = .ok (.iload_n 1, 1) := by decide +kernel
theorem dX4_countSong_2 : decode cX4_countSong 2 = .ok (.iload_n 2, 1) := by decide +kernel
theorem dX4_countSong_3 : decode cX4_countSong 3 = .ok (.iload_n 3, 1) := by decide +kernel
theorem dX4_countSong_4 : decode cX4_countSong 4 = .ok (.invokevirtual 70, 3) := by decide +kernel
theorem dX4_countSong_7 : decode cX4_countSong 7 = .ok (.istore 4, 2) := by decide +kernel
theorem dX4_countSong_9 : decode cX4_countSong 9 = .ok (.iload 4, 2) := by decide +kernel
theorem dX4_countSong_11 : decode cX4_countSong 11 = .ok (.iconst 3, 1) := by decide +kernel
theorem dX4_countSong_12 : decode cX4_countSong 12 = .ok (.if_icmp .lt 7, 3) := by decide +kernel
theorem dX4_countSong_15 : decode cX4_countSong 15 = .ok (.iconst 1, 1) := by decide +kernel
theorem dX4_countSong_16 : decode cX4_countSong 16 = .ok (.goto 4, 3) := by decide +kernel
theorem dX4_countSong_19 : decode cX4_countSong 19 = .ok (.iconst 0, 1) := by decide +kernel
theorem dX4_countSong_20 : decode cX4_countSong 20 = .ok (.istore 5, 2) := by decide +kernel
theorem dX4_countSong_22 : decode cX4_countSong 22 = .ok (.aload_n 0, 1) := by decide +kernel
theorem dX4_countSong_23 : decode cX4_countSong 23 = .ok (.getfield 32, 3) := by decide +kernel
theorem dX4_countSong_26 : decode cX4_countSong 26 = .ok (.iload_n 1, 1) := by decide +kernel
theorem dX4_countSong_27 : decode cX4_countSong 27 = .ok (.dup2, 1) := by decide +kernel
theorem dX4_countSong_28 : decode cX4_countSong 28 = .ok (.iaload, 1) := by decide +kernel
theorem dX4_countSong_29 : decode cX4_countSong 29 = .ok (.iload 5, 2) := by decide +kernel
theorem dX4_countSong_31 : decode cX4_countSong 31 = .ok (.ifCond .eq 8, 3) := by decide +kernel
theorem dX4_countSong_34 : decode cX4_countSong 34 = .ok (.iload 4, 2) := by decide +kernel
theorem dX4_countSong_36 : decode cX4_countSong 36 = .ok (.goto 4, 3) := by decide +kernel
theorem dX4_countSong_39 : decode cX4_countSong 39 = .ok (.iconst 0, 1) := by decide +kernel
theorem dX4_countSong_40 : decode cX4_countSong 40 = .ok (.iadd, 1) := by decide +kernel
theorem dX4_countSong_41 : decode cX4_countSong 41 = .ok (.iastore, 1) := by decide +kernel
theorem dX4_countSong_42 : decode cX4_countSong 42 = .ok (.aload_n 0, 1) := by decide +kernel
theorem dX4_countSong_43 : decode cX4_countSong 43 = .ok (.getfield 20, 3) := by decide +kernel
theorem dX4_countSong_46 : decode cX4_countSong 46 = .ok (.iload_n 1, 1) := by decide +kernel
theorem dX4_countSong_47 : decode cX4_countSong 47 = .ok (.aaload, 1) := by decide +kernel
theorem dX4_countSong_48 : decode cX4_countSong 48 = .ok (.iload_n 2, 1) := by decide +kernel
theorem dX4_countSong_49 : decode cX4_countSong 49 = .ok (.iconst 0, 1) := by decide +kernel
theorem dX4_countSong_50 : decode cX4_countSong 50 = .ok (.iastore, 1) := by decide +kernel
theorem dX4_countSong_51 : decode cX4_countSong 51 = .ok (.aload_n 0, 1) := by decide +kernel
theorem dX4_countSong_52 : decode cX4_countSong 52 = .ok (.getfield 23, 3) := by decide +kernel
theorem dX4_countSong_55 : decode cX4_countSong 55 = .ok (.iload_n 1, 1) := by decide +kernel
theorem dX4_countSong_56 : decode cX4_countSong 56 = .ok (.aaload, 1) := by decide +kernel
theorem dX4_countSong_57 : decode cX4_countSong 57 = .ok (.iload_n 2, 1) := by decide +kernel
theorem dX4_countSong_58 : decode cX4_countSong 58 = .ok (.iconst 0, 1) := by decide +kernel
theorem dX4_countSong_59 : decode cX4_countSong 59 = .ok (.iastore, 1) := by decide +kernel
theorem dX4_countSong_60 : decode cX4_countSong 60 = .ok (.iconst 0, 1) := by decide +kernel
theorem dX4_countSong_61 : decode cX4_countSong 61 = .ok (.istore 6, 2) := by decide +kernel
theorem dX4_countSong_63 : decode cX4_countSong 63 = .ok (.iload 6, 2) := by decide +kernel
theorem dX4_countSong_65 : decode cX4_countSong 65 = .ok (.bipush 10, 2) := by decide +kernel
theorem dX4_countSong_67 : decode cX4_countSong 67 = .ok (.if_icmp .ge 65, 3) := by decide +kernel
theorem dX4_countSong_70 : decode cX4_countSong 70 = .ok (.aload_n 0, 1) := by decide +kernel
theorem dX4_countSong_71 : decode cX4_countSong 71 = .ok (.getfield 11, 3) := by decide +kernel
theorem dX4_countSong_74 : decode cX4_countSong 74 = .ok (.iload_n 1, 1) := by decide +kernel
theorem dX4_countSong_75 : decode cX4_countSong 75 = .ok (.iload 6, 2) := by decide +kernel
theorem dX4_countSong_77 : decode cX4_countSong 77 = .ok (.invokestatic 48, 3) := by decide +kernel
theorem dX4_countSong_80 : decode cX4_countSong 80 = .ok (.aaload, 1) := by decide +kernel
theorem dX4_countSong_81 : decode cX4_countSong 81 = .ok (.iload_n 2, 1) := by decide +kernel
theorem dX4_countSong_82 : decode cX4_countSong 82 = .ok (.iaload, 1) := by decide +kernel
theorem dX4_countSong_83 : decode cX4_countSong 83 = .ok (.istore 7, 2) := by decide +kernel
theorem dX4_countSong_85 : decode cX4_countSong 85 = .ok (.iload 7, 2) := by decide +kernel
theorem dX4_countSong_87 : decode cX4_countSong 87 = .ok (.ifCond .le 39, 3) := by decide +kernel
theorem dX4_countSong_90 : decode cX4_countSong 90 = .ok (.iload 5, 2) := by decide +kernel
theorem dX4_countSong_92 : decode cX4_countSong 92 = .ok (.ifCond .eq 9, 3) := by decide +kernel
theorem dX4_countSong_95 : decode cX4_countSong 95 = .ok (.iload 7, 2) := by decide +kernel
theorem dX4_countSong_97 : decode cX4_countSong 97 = .ok (.iload_n 3, 1) := by decide +kernel
theorem dX4_countSong_98 : decode cX4_countSong 98 = .ok (.if_icmp .eq 28, 3) := by decide +kernel
theorem dX4_countSong_101 : decode cX4_countSong 101 = .ok (.aload_n 0, 1) := by decide +kernel
theorem dX4_countSong_102 : decode cX4_countSong 102 = .ok (.getfield 20, 3) := by decide +kernel
theorem dX4_countSong_105 : decode cX4_countSong 105 = .ok (.iload_n 1, 1) := by decide +kernel
theorem dX4_countSong_106 : decode cX4_countSong 106 = .ok (.aaload, 1) := by decide +kernel
theorem dX4_countSong_107 : decode cX4_countSong 107 = .ok (.iload_n 2, 1) := by decide +kernel
theorem dX4_countSong_108 : decode cX4_countSong 108 = .ok (.dup2, 1) := by decide +kernel
theorem dX4_countSong_109 : decode cX4_countSong 109 = .ok (.iaload, 1) := by decide +kernel
theorem dX4_countSong_110 : decode cX4_countSong 110 = .ok (.iload 7, 2) := by decide +kernel
theorem dX4_countSong_112 : decode cX4_countSong 112 = .ok (.iadd, 1) := by decide +kernel
theorem dX4_countSong_113 : decode cX4_countSong 113 = .ok (.iastore, 1) := by decide +kernel
theorem dX4_countSong_114 : decode cX4_countSong 114 = .ok (.aload_n 0, 1) := by decide +kernel
theorem dX4_countSong_115 : decode cX4_countSong 115 = .ok (.getfield 23, 3) := by decide +kernel
theorem dX4_countSong_118 : decode cX4_countSong 118 = .ok (.iload_n 1, 1) := by decide +kernel
theorem dX4_countSong_119 : decode cX4_countSong 119 = .ok (.aaload, 1) := by decide +kernel
theorem dX4_countSong_120 : decode cX4_countSong 120 = .ok (.iload_n 2, 1) := by decide +kernel
theorem dX4_countSong_121 : decode cX4_countSong 121 = .ok (.dup2, 1) := by decide +kernel
theorem dX4_countSong_122 : decode cX4_countSong 122 = .ok (.iaload, 1) := by decide +kernel
theorem dX4_countSong_123 : decode cX4_countSong 123 = .ok (.iconst 1, 1) := by decide +kernel
theorem dX4_countSong_124 : decode cX4_countSong 124 = .ok (.iadd, 1) := by decide +kernel
theorem dX4_countSong_125 : decode cX4_countSong 125 = .ok (.iastore, 1) := by decide +kernel
theorem dX4_countSong_126 : decode cX4_countSong 126 = .ok (.iinc 6 1, 3) := by decide +kernel
theorem dX4_countSong_129 : decode cX4_countSong 129 = .ok (.goto (-66), 3) := by decide +kernel
theorem dX4_countSong_132 : decode cX4_countSong 132 = .ok (.return_, 1) := by decide +kernel
theorem dX4_fullCallers_0 : decode cX4_fullCallers 0 = .ok (.iconst 0, 1) := by decide +kernel
theorem dX4_fullCallers_1 : decode cX4_fullCallers 1 = .ok (.istore 4, 2) := by decide +kernel
theorem dX4_fullCallers_3 : decode cX4_fullCallers 3 = .ok (.iconst 0, 1) := by decide +kernel
theorem dX4_fullCallers_4 : decode cX4_fullCallers 4 = .ok (.istore 5, 2) := by decide +kernel
theorem dX4_fullCallers_6 : decode cX4_fullCallers 6 = .ok (.iload 5, 2) := by decide +kernel
theorem dX4_fullCallers_8 : decode cX4_fullCallers 8 = .ok (.bipush 10, 2) := by decide +kernel
theorem dX4_fullCallers_10 : decode cX4_fullCallers 10 = .ok (.if_icmp .ge 36, 3) := by decide +kernel
theorem dX4_fullCallers_13 : decode cX4_fullCallers 13 = .ok (.iload 4, 2) := by decide +kernel
theorem dX4_fullCallers_15 : decode cX4_fullCallers 15 = .ok (.aload_n 0, 1) := by decide +kernel
theorem dX4_fullCallers_16 : decode cX4_fullCallers 16 = .ok (.getfield 11, 3) := by decide +kernel
theorem dX4_fullCallers_19 : decode cX4_fullCallers 19 = .ok (.iload_n 1, 1) := by decide +kernel
theorem dX4_fullCallers_20 : decode cX4_fullCallers 20 = .ok (.iload 5, 2) := by decide +kernel
theorem dX4_fullCallers_22 : decode cX4_fullCallers 22 = .ok (.invokestatic 48, 3) := by decide +kernel
theorem dX4_fullCallers_25 : decode cX4_fullCallers 25 = .ok (.aaload, 1) := by decide +kernel
theorem dX4_fullCallers_26 : decode cX4_fullCallers 26 = .ok (.iload_n 2, 1) := by decide +kernel
theorem dX4_fullCallers_27 : decode cX4_fullCallers 27 = .ok (.iaload, 1) := by decide +kernel
theorem dX4_fullCallers_28 : decode cX4_fullCallers 28 = .ok (.iload_n 3, 1) := by decide +kernel
theorem dX4_fullCallers_29 : decode cX4_fullCallers 29 = .ok (.if_icmp .ne 7, 3) := by decide +kernel
theorem dX4_fullCallers_32 : decode cX4_fullCallers 32 = .ok (.iconst 1, 1) := by decide +kernel
theorem dX4_fullCallers_33 : decode cX4_fullCallers 33 = .ok (.goto 4, 3) := by decide +kernel
theorem dX4_fullCallers_36 : decode cX4_fullCallers 36 = .ok (.iconst 0, 1) := by decide +kernel
theorem dX4_fullCallers_37 : decode cX4_fullCallers 37 = .ok (.iadd, 1) := by decide +kernel
theorem dX4_fullCallers_38 : decode cX4_fullCallers 38 = .ok (.istore 4, 2) := by decide +kernel
theorem dX4_fullCallers_40 : decode cX4_fullCallers 40 = .ok (.iinc 5 1, 3) := by decide +kernel
theorem dX4_fullCallers_43 : decode cX4_fullCallers 43 = .ok (.goto (-37), 3) := by decide +kernel
theorem dX4_fullCallers_46 : decode cX4_fullCallers 46 = .ok (.iload 4, 2) := by decide +kernel
theorem dX4_fullCallers_48 : decode cX4_fullCallers 48 = .ok (.ireturn, 1) := by decide +kernel
theorem dX4_givePoints_0 : decode cX4_givePoints 0 = .ok (.aload_n 0, 1) := by decide +kernel
theorem dX4_givePoints_1 : decode cX4_givePoints 1 = .ok (.getfield 44, 3) := by decide +kernel
theorem dX4_givePoints_4 : decode cX4_givePoints 4 = .ok (.iload_n 1, 1) := by decide +kernel
theorem dX4_givePoints_5 : decode cX4_givePoints 5 = .ok (.aload_n 0, 1) := by decide +kernel
theorem dX4_givePoints_6 : decode cX4_givePoints 6 = .ok (.getfield 38, 3) := by decide +kernel
theorem dX4_givePoints_9 : decode cX4_givePoints 9 = .ok (.invokevirtual 74, 3) := by decide +kernel
theorem dX4_givePoints_12 : decode cX4_givePoints 12 = .ok (.istore 4, 2) := by decide +kernel
theorem dX4_givePoints_14 : decode cX4_givePoints 14 = .ok (.iconst 0, 1) := by decide +kernel
theorem dX4_givePoints_15 : decode cX4_givePoints 15 = .ok (.istore 5, 2) := by decide +kernel
theorem dX4_givePoints_17 : decode cX4_givePoints 17 = .ok (.iload 5, 2) := by decide +kernel
theorem dX4_givePoints_19 : decode cX4_givePoints 19 = .ok (.bipush 8, 2) := by decide +kernel
theorem dX4_givePoints_21 : decode cX4_givePoints 21 = .ok (.if_icmp .ge 48, 3) := by decide +kernel
theorem dX4_givePoints_24 : decode cX4_givePoints 24 = .ok (.aload_n 0, 1) := by decide +kernel
theorem dX4_givePoints_25 : decode cX4_givePoints 25 = .ok (.getfield 41, 3) := by decide +kernel
theorem dX4_givePoints_28 : decode cX4_givePoints 28 = .ok (.iload 5, 2) := by decide +kernel
theorem dX4_givePoints_30 : decode cX4_givePoints 30 = .ok (.aload_n 0, 1) := by decide +kernel
theorem dX4_givePoints_31 : decode cX4_givePoints 31 = .ok (.getfield 20, 3) := by decide +kernel
theorem dX4_givePoints_34 : decode cX4_givePoints 34 = .ok (.iload_n 1, 1) := by decide +kernel
theorem dX4_givePoints_35 : decode cX4_givePoints 35 = .ok (.aaload, 1) := by decide +kernel
theorem dX4_givePoints_36 : decode cX4_givePoints 36 = .ok (.iload 5, 2) := by decide +kernel
theorem dX4_givePoints_38 : decode cX4_givePoints 38 = .ok (.iaload, 1) := by decide +kernel
theorem dX4_givePoints_39 : decode cX4_givePoints 39 = .ok (.bipush 16, 2) := by decide +kernel
theorem dX4_givePoints_41 : decode cX4_givePoints 41 = .ok (.imul, 1) := by decide +kernel
theorem dX4_givePoints_42 : decode cX4_givePoints 42 = .ok (.aload_n 0, 1) := by decide +kernel
theorem dX4_givePoints_43 : decode cX4_givePoints 43 = .ok (.getfield 23, 3) := by decide +kernel
theorem dX4_givePoints_46 : decode cX4_givePoints 46 = .ok (.iload_n 1, 1) := by decide +kernel
theorem dX4_givePoints_47 : decode cX4_givePoints 47 = .ok (.aaload, 1) := by decide +kernel
theorem dX4_givePoints_48 : decode cX4_givePoints 48 = .ok (.iload 5, 2) := by decide +kernel
theorem dX4_givePoints_50 : decode cX4_givePoints 50 = .ok (.iaload, 1) := by decide +kernel
theorem dX4_givePoints_51 : decode cX4_givePoints 51 = .ok (.iadd, 1) := by decide +kernel
theorem dX4_givePoints_52 : decode cX4_givePoints 52 = .ok (.iastore, 1) := by decide +kernel
theorem dX4_givePoints_53 : decode cX4_givePoints 53 = .ok (.aload_n 0, 1) := by decide +kernel
theorem dX4_givePoints_54 : decode cX4_givePoints 54 = .ok (.getfield 26, 3) := by decide +kernel
theorem dX4_givePoints_57 : decode cX4_givePoints 57 = .ok (.iload_n 1, 1) := by decide +kernel
theorem dX4_givePoints_58 : decode cX4_givePoints 58 = .ok (.aaload, 1) := by decide +kernel
theorem dX4_givePoints_59 : decode cX4_givePoints 59 = .ok (.iload 5, 2) := by decide +kernel
theorem dX4_givePoints_61 : decode cX4_givePoints 61 = .ok (.iconst 0, 1) := by decide +kernel
theorem dX4_givePoints_62 : decode cX4_givePoints 62 = .ok (.iastore, 1) := by decide +kernel
theorem dX4_givePoints_63 : decode cX4_givePoints 63 = .ok (.iinc 5 1, 3) := by decide +kernel
theorem dX4_givePoints_66 : decode cX4_givePoints 66 = .ok (.goto (-49), 3) := by decide +kernel
theorem dX4_givePoints_69 : decode cX4_givePoints 69 = .ok (.aload_n 0, 1) := by decide +kernel
theorem dX4_givePoints_70 : decode cX4_givePoints 70 = .ok (.getfield 38, 3) := by decide +kernel
theorem dX4_givePoints_73 : decode cX4_givePoints 73 = .ok (.iload 4, 2) := by decide +kernel
theorem dX4_givePoints_75 : decode cX4_givePoints 75 = .ok (.aload_n 0, 1) := by decide +kernel
theorem dX4_givePoints_76 : decode cX4_givePoints 76 = .ok (.getfield 41, 3) := by decide +kernel
theorem dX4_givePoints_79 : decode cX4_givePoints 79 = .ok (.invokestatic 78, 3) := by decide +kernel
theorem dX4_givePoints_82 : decode cX4_givePoints 82 = .ok (.aload_n 0, 1) := by decide +kernel
theorem dX4_givePoints_83 : decode cX4_givePoints 83 = .ok (.getfield 35, 3) := by decide +kernel
theorem dX4_givePoints_86 : decode cX4_givePoints 86 = .ok (.iload_n 1, 1) := by decide +kernel
theorem dX4_givePoints_87 : decode cX4_givePoints 87 = .ok (.iload 4, 2) := by decide +kernel
theorem dX4_givePoints_89 : decode cX4_givePoints 89 = .ok (.ifCond .le 28, 3) := by decide +kernel
theorem dX4_givePoints_92 : decode cX4_givePoints 92 = .ok (.aload_n 0, 1) := by decide +kernel
theorem dX4_givePoints_93 : decode cX4_givePoints 93 = .ok (.getfield 20, 3) := by decide +kernel
theorem dX4_givePoints_96 : decode cX4_givePoints 96 = .ok (.iload_n 1, 1) := by decide +kernel
theorem dX4_givePoints_97 : decode cX4_givePoints 97 = .ok (.aaload, 1) := by decide +kernel
theorem dX4_givePoints_98 : decode cX4_givePoints 98 = .ok (.aload_n 0, 1) := by decide +kernel
theorem dX4_givePoints_99 : decode cX4_givePoints 99 = .ok (.getfield 38, 3) := by decide +kernel
theorem dX4_givePoints_102 : decode cX4_givePoints 102 = .ok (.iconst 0, 1) := by decide +kernel
theorem dX4_givePoints_103 : decode cX4_givePoints 103 = .ok (.iaload, 1) := by decide +kernel
theorem dX4_givePoints_104 : decode cX4_givePoints 104 = .ok (.iaload, 1) := by decide +kernel
theorem dX4_givePoints_105 : decode cX4_givePoints 105 = .ok (.ifCond .le 12, 3) := by decide +kernel
theorem dX4_givePoints_108 : decode cX4_givePoints 108 = .ok (.aload_n 0, 1) := by decide +kernel
theorem dX4_givePoints_109 : decode cX4_givePoints 109 = .ok (.getfield 38, 3) := by decide +kernel
theorem dX4_givePoints_112 : decode cX4_givePoints 112 = .ok (.iconst 0, 1) := by decide +kernel
theorem dX4_givePoints_113 : decode cX4_givePoints 113 = .ok (.iaload, 1) := by decide +kernel
theorem dX4_givePoints_114 : decode cX4_givePoints 114 = .ok (.goto 4, 3) := by decide +kernel
theorem dX4_givePoints_117 : decode cX4_givePoints 117 = .ok (.iconst (-1), 1) := by decide +kernel
theorem dX4_givePoints_118 : decode cX4_givePoints 118 = .ok (.iastore, 1) := by decide +kernel
theorem dX4_givePoints_119 : decode cX4_givePoints 119 = .ok (.aload_n 0, 1) := by decide +kernel
theorem dX4_givePoints_120 : decode cX4_givePoints 120 = .ok (.getfield 29, 3) := by decide +kernel
theorem dX4_givePoints_123 : decode cX4_givePoints 123 = .ok (.iload_n 1, 1) := by decide +kernel
theorem dX4_givePoints_124 : decode cX4_givePoints 124 = .ok (.iaload, 1) := by decide +kernel
theorem dX4_givePoints_125 : decode cX4_givePoints 125 = .ok (.iload_n 2, 1) := by decide +kernel
theorem dX4_givePoints_126 : decode cX4_givePoints 126 = .ok (.if_icmp .ge 7, 3) := by decide +kernel
theorem dX4_givePoints_129 : decode cX4_givePoints 129 = .ok (.iconst 1, 1) := by decide +kernel
theorem dX4_givePoints_130 : decode cX4_givePoints 130 = .ok (.goto 4, 3) := by decide +kernel
theorem dX4_givePoints_133 : decode cX4_givePoints 133 = .ok (.iconst 0, 1) := by decide +kernel
theorem dX4_givePoints_134 : decode cX4_givePoints 134 = .ok (.istore 5, 2) := by decide +kernel
theorem dX4_givePoints_136 : decode cX4_givePoints 136 = .ok (.iconst 0, 1) := by decide +kernel
theorem dX4_givePoints_137 : decode cX4_givePoints 137 = .ok (.istore 6, 2) := by decide +kernel
theorem dX4_givePoints_139 : decode cX4_givePoints 139 = .ok (.iload 6, 2) := by decide +kernel
theorem dX4_givePoints_141 : decode cX4_givePoints 141 = .ok (.iload 4, 2) := by decide +kernel
theorem dX4_givePoints_143 : decode cX4_givePoints 143 = .ok (.if_icmp .ge 64, 3) := by decide +kernel
theorem dX4_givePoints_146 : decode cX4_givePoints 146 = .ok (.aload_n 0, 1) := by decide +kernel
theorem dX4_givePoints_147 : decode cX4_givePoints 147 = .ok (.getfield 38, 3) := by decide +kernel
theorem dX4_givePoints_150 : decode cX4_givePoints 150 = .ok (.iload 6, 2) := by decide +kernel
theorem dX4_givePoints_152 : decode cX4_givePoints 152 = .ok (.iaload, 1) := by decide +kernel
theorem dX4_givePoints_153 : decode cX4_givePoints 153 = .ok (.istore 7, 2) := by decide +kernel
theorem dX4_givePoints_155 : decode cX4_givePoints 155 = .ok (.aload_n 0, 1) := by decide +kernel
theorem dX4_givePoints_156 : decode cX4_givePoints 156 = .ok (.getfield 20, 3) := by decide +kernel
theorem dX4_givePoints_159 : decode cX4_givePoints 159 = .ok (.iload_n 1, 1) := by decide +kernel
theorem dX4_givePoints_160 : decode cX4_givePoints 160 = .ok (.aaload, 1) := by decide +kernel
theorem dX4_givePoints_161 : decode cX4_givePoints 161 = .ok (.iload 7, 2) := by decide +kernel
theorem dX4_givePoints_163 : decode cX4_givePoints 163 = .ok (.iaload, 1) := by decide +kernel
theorem dX4_givePoints_164 : decode cX4_givePoints 164 = .ok (.ifCond .le 11, 3) := by decide +kernel
theorem dX4_givePoints_167 : decode cX4_givePoints 167 = .ok (.iload 6, 2) := by decide +kernel
theorem dX4_givePoints_169 : decode cX4_givePoints 169 = .ok (.invokestatic 82, 3) := by decide +kernel
theorem dX4_givePoints_172 : decode cX4_givePoints 172 = .ok (.goto 4, 3) := by decide +kernel
theorem dX4_givePoints_175 : decode cX4_givePoints 175 = .ok (.iconst 0, 1) := by decide +kernel
theorem dX4_givePoints_176 : decode cX4_givePoints 176 = .ok (.istore 8, 2) := by decide +kernel
theorem dX4_givePoints_178 : decode cX4_givePoints 178 = .ok (.aload_n 0, 1) := by decide +kernel
theorem dX4_givePoints_179 : decode cX4_givePoints 179 = .ok (.getfield 26, 3) := by decide +kernel
theorem dX4_givePoints_182 : decode cX4_givePoints 182 = .ok (.iload_n 1, 1) := by decide +kernel
theorem dX4_givePoints_183 : decode cX4_givePoints 183 = .ok (.aaload, 1) := by decide +kernel
theorem dX4_givePoints_184 : decode cX4_givePoints 184 = .ok (.iload 7, 2) := by decide +kernel
theorem dX4_givePoints_186 : decode cX4_givePoints 186 = .ok (.iload 5, 2) := by decide +kernel
theorem dX4_givePoints_188 : decode cX4_givePoints 188 = .ok (.ifCond .eq 10, 3) := by decide +kernel
theorem dX4_givePoints_191 : decode cX4_givePoints 191 = .ok (.aload_n 3, 1) := by decide +kernel
theorem dX4_givePoints_192 : decode cX4_givePoints 192 = .ok (.iload 7, 2) := by decide +kernel
theorem dX4_givePoints_194 : decode cX4_givePoints 194 = .ok (.iaload, 1) := by decide +kernel
theorem dX4_givePoints_195 : decode cX4_givePoints 195 = .ok (.goto 5, 3) := by decide +kernel
theorem dX4_givePoints_198 : decode cX4_givePoints 198 = .ok (.iload 8, 2) := by decide +kernel
theorem dX4_givePoints_200 : decode cX4_givePoints 200 = .ok (.iastore, 1) := by decide +kernel
theorem dX4_givePoints_201 : decode cX4_givePoints 201 = .ok (.iinc 6 1, 3) := by decide +kernel
theorem dX4_givePoints_204 : decode cX4_givePoints 204 = .ok (.goto (-65), 3) := by decide +kernel
theorem dX4_givePoints_207 : decode cX4_givePoints 207 = .ok (.return_, 1) := by decide +kernel
theorem dX4_needed_0 : decode cX4_needed 0 = .ok (.aload_n 0, 1) := by decide +kernel
theorem dX4_needed_1 : decode cX4_needed 1 = .ok (.getfield 44, 3) := by decide +kernel
theorem dX4_needed_4 : decode cX4_needed 4 = .ok (.iload_n 1, 1) := by decide +kernel
theorem dX4_needed_5 : decode cX4_needed 5 = .ok (.iload_n 2, 1) := by decide +kernel
theorem dX4_needed_6 : decode cX4_needed 6 = .ok (.invokevirtual 64, 3) := by decide +kernel
theorem dX4_needed_9 : decode cX4_needed 9 = .ok (.ifCond .ne 5, 3) := by decide +kernel
theorem dX4_needed_12 : decode cX4_needed 12 = .ok (.iconst (-1), 1) := by decide +kernel
theorem dX4_needed_13 : decode cX4_needed 13 = .ok (.ireturn, 1) := by decide +kernel
theorem dX4_needed_14 : decode cX4_needed 14 = .ok (.aload_n 0, 1) := by decide +kernel
theorem dX4_needed_15 : decode cX4_needed 15 = .ok (.getfield 35, 3) := by decide +kernel
theorem dX4_needed_18 : decode cX4_needed 18 = .ok (.iload_n 1, 1) := by decide +kernel
theorem dX4_needed_19 : decode cX4_needed 19 = .ok (.iaload, 1) := by decide +kernel
theorem dX4_needed_20 : decode cX4_needed 20 = .ok (.iload_n 2, 1) := by decide +kernel
theorem dX4_needed_21 : decode cX4_needed 21 = .ok (.if_icmp .ne 5, 3) := by decide +kernel
theorem dX4_needed_24 : decode cX4_needed 24 = .ok (.iconst 0, 1) := by decide +kernel
theorem dX4_needed_25 : decode cX4_needed 25 = .ok (.ireturn, 1) := by decide +kernel
theorem dX4_needed_26 : decode cX4_needed 26 = .ok (.iconst 1, 1) := by decide +kernel
theorem dX4_needed_27 : decode cX4_needed 27 = .ok (.istore_n 3, 1) := by decide +kernel
theorem dX4_needed_28 : decode cX4_needed 28 = .ok (.iconst 0, 1) := by decide +kernel
theorem dX4_needed_29 : decode cX4_needed 29 = .ok (.istore 4, 2) := by decide +kernel
theorem dX4_needed_31 : decode cX4_needed 31 = .ok (.iload 4, 2) := by decide +kernel
theorem dX4_needed_33 : decode cX4_needed 33 = .ok (.bipush 8, 2) := by decide +kernel
theorem dX4_needed_35 : decode cX4_needed 35 = .ok (.if_icmp .ge 73, 3) := by decide +kernel
theorem dX4_needed_38 : decode cX4_needed 38 = .ok (.iload 4, 2) := by decide +kernel
theorem dX4_needed_40 : decode cX4_needed 40 = .ok (.iload_n 2, 1) := by decide +kernel
theorem dX4_needed_41 : decode cX4_needed 41 = .ok (.if_icmp .eq 61, 3) := by decide +kernel
theorem dX4_needed_44 : decode cX4_needed 44 = .ok (.aload_n 0, 1) := by decide +kernel
theorem dX4_needed_45 : decode cX4_needed 45 = .ok (.getfield 44, 3) := by decide +kernel
theorem dX4_needed_48 : decode cX4_needed 48 = .ok (.iload_n 1, 1) := by decide +kernel
theorem dX4_needed_49 : decode cX4_needed 49 = .ok (.iload 4, 2) := by decide +kernel
theorem dX4_needed_51 : decode cX4_needed 51 = .ok (.invokevirtual 64, 3) := by decide +kernel
theorem dX4_needed_54 : decode cX4_needed 54 = .ok (.ifCond .eq 48, 3) := by decide +kernel
theorem dX4_needed_57 : decode cX4_needed 57 = .ok (.aload_n 0, 1) := by decide +kernel
theorem dX4_needed_58 : decode cX4_needed 58 = .ok (.getfield 20, 3) := by decide +kernel
theorem dX4_needed_61 : decode cX4_needed 61 = .ok (.iload_n 1, 1) := by decide +kernel
theorem dX4_needed_62 : decode cX4_needed 62 = .ok (.aaload, 1) := by decide +kernel
theorem dX4_needed_63 : decode cX4_needed 63 = .ok (.iload 4, 2) := by decide +kernel
theorem dX4_needed_65 : decode cX4_needed 65 = .ok (.iaload, 1) := by decide +kernel
theorem dX4_needed_66 : decode cX4_needed 66 = .ok (.aload_n 0, 1) := by decide +kernel
theorem dX4_needed_67 : decode cX4_needed 67 = .ok (.getfield 20, 3) := by decide +kernel
theorem dX4_needed_70 : decode cX4_needed 70 = .ok (.iload_n 1, 1) := by decide +kernel
theorem dX4_needed_71 : decode cX4_needed 71 = .ok (.aaload, 1) := by decide +kernel
theorem dX4_needed_72 : decode cX4_needed 72 = .ok (.iload_n 2, 1) := by decide +kernel
theorem dX4_needed_73 : decode cX4_needed 73 = .ok (.iaload, 1) := by decide +kernel
theorem dX4_needed_74 : decode cX4_needed 74 = .ok (.isub, 1) := by decide +kernel
theorem dX4_needed_75 : decode cX4_needed 75 = .ok (.istore 5, 2) := by decide +kernel
theorem dX4_needed_77 : decode cX4_needed 77 = .ok (.iload_n 3, 1) := by decide +kernel
theorem dX4_needed_78 : decode cX4_needed 78 = .ok (.aload_n 0, 1) := by decide +kernel
theorem dX4_needed_79 : decode cX4_needed 79 = .ok (.iload_n 1, 1) := by decide +kernel
theorem dX4_needed_80 : decode cX4_needed 80 = .ok (.iload_n 2, 1) := by decide +kernel
theorem dX4_needed_81 : decode cX4_needed 81 = .ok (.iload 4, 2) := by decide +kernel
theorem dX4_needed_83 : decode cX4_needed 83 = .ok (.invokevirtual 86, 3) := by decide +kernel
theorem dX4_needed_86 : decode cX4_needed 86 = .ok (.ifCond .eq 8, 3) := by decide +kernel
theorem dX4_needed_89 : decode cX4_needed 89 = .ok (.iload 5, 2) := by decide +kernel
theorem dX4_needed_91 : decode cX4_needed 91 = .ok (.goto 7, 3) := by decide +kernel
theorem dX4_needed_94 : decode cX4_needed 94 = .ok (.iload 5, 2) := by decide +kernel
theorem dX4_needed_96 : decode cX4_needed 96 = .ok (.iconst 1, 1) := by decide +kernel
theorem dX4_needed_97 : decode cX4_needed 97 = .ok (.iadd, 1) := by decide +kernel
theorem dX4_needed_98 : decode cX4_needed 98 = .ok (.invokestatic 57, 3) := by decide +kernel
theorem dX4_needed_101 : decode cX4_needed 101 = .ok (.istore_n 3, 1) := by decide +kernel
theorem dX4_needed_102 : decode cX4_needed 102 = .ok (.iinc 4 1, 3) := by decide +kernel
theorem dX4_needed_105 : decode cX4_needed 105 = .ok (.goto (-74), 3) := by decide +kernel
theorem dX4_needed_108 : decode cX4_needed 108 = .ok (.iload_n 3, 1) := by decide +kernel
theorem dX4_needed_109 : decode cX4_needed 109 = .ok (.ireturn, 1) := by decide +kernel
theorem dX4_winsTie_0 : decode cX4_winsTie 0 = .ok (.aload_n 0, 1) := by decide +kernel
theorem dX4_winsTie_1 : decode cX4_winsTie 1 = .ok (.getfield 23, 3) := by decide +kernel
theorem dX4_winsTie_4 : decode cX4_winsTie 4 = .ok (.iload_n 1, 1) := by decide +kernel
theorem dX4_winsTie_5 : decode cX4_winsTie 5 = .ok (.aaload, 1) := by decide +kernel
theorem dX4_winsTie_6 : decode cX4_winsTie 6 = .ok (.iload_n 2, 1) := by decide +kernel
theorem dX4_winsTie_7 : decode cX4_winsTie 7 = .ok (.iaload, 1) := by decide +kernel
theorem dX4_winsTie_8 : decode cX4_winsTie 8 = .ok (.iconst 1, 1) := by decide +kernel
theorem dX4_winsTie_9 : decode cX4_winsTie 9 = .ok (.iadd, 1) := by decide +kernel
theorem dX4_winsTie_10 : decode cX4_winsTie 10 = .ok (.istore 4, 2) := by decide +kernel
theorem dX4_winsTie_12 : decode cX4_winsTie 12 = .ok (.aload_n 0, 1) := by decide +kernel
theorem dX4_winsTie_13 : decode cX4_winsTie 13 = .ok (.getfield 23, 3) := by decide +kernel
theorem dX4_winsTie_16 : decode cX4_winsTie 16 = .ok (.iload_n 1, 1) := by decide +kernel
theorem dX4_winsTie_17 : decode cX4_winsTie 17 = .ok (.aaload, 1) := by decide +kernel
theorem dX4_winsTie_18 : decode cX4_winsTie 18 = .ok (.iload_n 3, 1) := by decide +kernel
theorem dX4_winsTie_19 : decode cX4_winsTie 19 = .ok (.iaload, 1) := by decide +kernel
theorem dX4_winsTie_20 : decode cX4_winsTie 20 = .ok (.istore 5, 2) := by decide +kernel
theorem dX4_winsTie_22 : decode cX4_winsTie 22 = .ok (.iload 4, 2) := by decide +kernel
theorem dX4_winsTie_24 : decode cX4_winsTie 24 = .ok (.iload 5, 2) := by decide +kernel
theorem dX4_winsTie_26 : decode cX4_winsTie 26 = .ok (.if_icmp .gt 15, 3) := by decide +kernel
theorem dX4_winsTie_29 : decode cX4_winsTie 29 = .ok (.iload 4, 2) := by decide +kernel
theorem dX4_winsTie_31 : decode cX4_winsTie 31 = .ok (.iload 5, 2) := by decide +kernel
theorem dX4_winsTie_33 : decode cX4_winsTie 33 = .ok (.if_icmp .ne 12, 3) := by decide +kernel
theorem dX4_winsTie_36 : decode cX4_winsTie 36 = .ok (.iload_n 2, 1) := by decide +kernel
theorem dX4_winsTie_37 : decode cX4_winsTie 37 = .ok (.iload_n 3, 1) := by decide +kernel
theorem dX4_winsTie_38 : decode cX4_winsTie 38 = .ok (.if_icmp .ge 7, 3) := by decide +kernel
theorem dX4_winsTie_41 : decode cX4_winsTie 41 = .ok (.iconst 1, 1) := by decide +kernel
theorem dX4_winsTie_42 : decode cX4_winsTie 42 = .ok (.goto 4, 3) := by decide +kernel
theorem dX4_winsTie_45 : decode cX4_winsTie 45 = .ok (.iconst 0, 1) := by decide +kernel
theorem dX4_winsTie_46 : decode cX4_winsTie 46 = .ok (.ireturn, 1) := by decide +kernel
theorem dX5_init_0 : decode cX5_init 0 = .ok (.aload_n 0, 1) := by decide +kernel
theorem dX5_init_1 : decode cX5_init 1 = .ok (.invokespecial 3, 3) := by decide +kernel
theorem dX5_init_4 : decode cX5_init 4 = .ok (.aload_n 0, 1) := by decide +kernel
theorem dX5_init_5 : decode cX5_init 5 = .ok (.bipush 8, 2) := by decide +kernel
theorem dX5_init_7 : decode cX5_init 7 = .ok (.newarray .int, 2) := by decide +kernel
theorem dX5_init_9 : decode cX5_init 9 = .ok (.putfield 9, 3) := by decide +kernel
theorem dX5_init_12 : decode cX5_init 12 = .ok (.aload_n 0, 1) := by decide +kernel
theorem dX5_init_13 : decode cX5_init 13 = .ok (.bipush 8, 2) := by decide +kernel
theorem dX5_init_15 : decode cX5_init 15 = .ok (.newarray .int, 2) := by decide +kernel
theorem dX5_init_17 : decode cX5_init 17 = .ok (.putfield 15, 3) := by decide +kernel
theorem dX5_init_20 : decode cX5_init 20 = .ok (.aload_n 0, 1) := by decide +kernel
theorem dX5_init_21 : decode cX5_init 21 = .ok (.bipush 8, 2) := by decide +kernel
theorem dX5_init_23 : decode cX5_init 23 = .ok (.newarray .int, 2) := by decide +kernel
theorem dX5_init_25 : decode cX5_init 25 = .ok (.putfield 18, 3) := by decide +kernel
theorem dX5_init_28 : decode cX5_init 28 = .ok (.aload_n 0, 1) := by decide +kernel
theorem dX5_init_29 : decode cX5_init 29 = .ok (.bipush 8, 2) := by decide +kernel
theorem dX5_init_31 : decode cX5_init 31 = .ok (.newarray .int, 2) := by decide +kernel
theorem dX5_init_33 : decode cX5_init 33 = .ok (.putfield 21, 3) := by decide +kernel
theorem dX5_init_36 : decode cX5_init 36 = .ok (.aload_n 0, 1) := by decide +kernel
theorem dX5_init_37 : decode cX5_init 37 = .ok (.iconst 0, 1) := by decide +kernel
theorem dX5_init_38 : decode cX5_init 38 = .ok (.putfield 24, 3) := by decide +kernel
theorem dX5_init_41 : decode cX5_init 41 = .ok (.aload_n 0, 1) := by decide +kernel
theorem dX5_init_42 : decode cX5_init 42 = .ok (.aload_n 1, 1) := by decide +kernel
theorem dX5_init_43 : decode cX5_init 43 = .ok (.putfield 28, 3) := by decide +kernel
theorem dX5_init_46 : decode cX5_init 46 = .ok (.aload_n 0, 1) := by decide +kernel
theorem dX5_init_47 : decode cX5_init 47 = .ok (.aload_n 2, 1) := by decide +kernel
theorem dX5_init_48 : decode cX5_init 48 = .ok (.putfield 32, 3) := by decide +kernel
theorem dX5_init_51 : decode cX5_init 51 = .ok (.aload_n 0, 1) := by decide +kernel
theorem dX5_init_52 : decode cX5_init 52 = .ok (.aload_n 3, 1) := by decide +kernel
theorem dX5_init_53 : decode cX5_init 53 = .ok (.putfield 36, 3) := by decide +kernel
theorem dX5_init_56 : decode cX5_init 56 = .ok (.aload_n 0, 1) := by decide +kernel
theorem dX5_init_57 : decode cX5_init 57 = .ok (.aload 4, 2) := by decide +kernel
theorem dX5_init_59 : decode cX5_init 59 = .ok (.putfield 40, 3) := by decide +kernel
theorem dX5_init_62 : decode cX5_init 62 = .ok (.return_, 1) := by decide +kernel
theorem dX5_countAll_0 : decode cX5_countAll 0 = .ok (.aload_n 0, 1) := by decide +kernel
theorem dX5_countAll_1 : decode cX5_countAll 1 = .ok (.iconst 0, 1) := by decide +kernel
theorem dX5_countAll_2 : decode cX5_countAll 2 = .ok (.putfield 24, 3) := by decide +kernel
theorem dX5_countAll_5 : decode cX5_countAll 5 = .ok (.iconst 0, 1) := by decide +kernel
theorem dX5_countAll_6 : decode cX5_countAll 6 = .ok (.istore_n 1, 1) := by decide +kernel
theorem dX5_countAll_7 : decode cX5_countAll 7 = .ok (.iload_n 1, 1) := by decide +kernel
theorem dX5_countAll_8 : decode cX5_countAll 8 = .ok (.bipush 8, 2) := by decide +kernel
theorem dX5_countAll_10 : decode cX5_countAll 10 = .ok (.if_icmp .ge 71, 3) := by decide +kernel
theorem dX5_countAll_13 : decode cX5_countAll 13 = .ok (.aload_n 0, 1) := by decide +kernel
theorem dX5_countAll_14 : decode cX5_countAll 14 = .ok (.getfield 9, 3) := by decide +kernel
theorem dX5_countAll_17 : decode cX5_countAll 17 = .ok (.iload_n 1, 1) := by decide +kernel
theorem dX5_countAll_18 : decode cX5_countAll 18 = .ok (.iconst 0, 1) := by decide +kernel
theorem dX5_countAll_19 : decode cX5_countAll 19 = .ok (.iastore, 1) := by decide +kernel
theorem dX5_countAll_20 : decode cX5_countAll 20 = .ok (.aload_n 0, 1) := by decide +kernel
theorem dX5_countAll_21 : decode cX5_countAll 21 = .ok (.getfield 15, 3) := by decide +kernel
theorem dX5_countAll_24 : decode cX5_countAll 24 = .ok (.iload_n 1, 1) := by decide +kernel
theorem dX5_countAll_25 : decode cX5_countAll 25 = .ok (.iconst 0, 1) := by decide +kernel
theorem dX5_countAll_26 : decode cX5_countAll 26 = .ok (.iastore, 1) := by decide +kernel
theorem dX5_countAll_27 : decode cX5_countAll 27 = .ok (.aload_n 0, 1) := by decide +kernel
theorem dX5_countAll_28 : decode cX5_countAll 28 = .ok (.getfield 28, 3) := by decide +kernel
theorem dX5_countAll_31 : decode cX5_countAll 31 = .ok (.iload_n 1, 1) := by decide +kernel
theorem dX5_countAll_32 : decode cX5_countAll 32 = .ok (.invokevirtual 44, 3) := by decide +kernel
theorem dX5_countAll_35 : decode cX5_countAll 35 = .ok (.ifCond .eq 40, 3) := by decide +kernel
theorem dX5_countAll_38 : decode cX5_countAll 38 = .ok (.aload_n 0, 1) := by decide +kernel
theorem dX5_countAll_39 : decode cX5_countAll 39 = .ok (.iload_n 1, 1) := by decide +kernel
theorem dX5_countAll_40 : decode cX5_countAll 40 = .ok (.invokevirtual 50, 3) := by decide +kernel
theorem dX5_countAll_43 : decode cX5_countAll 43 = .ok (.aload_n 0, 1) := by decide +kernel
theorem dX5_countAll_44 : decode cX5_countAll 44 = .ok (.getfield 21, 3) := by decide +kernel
theorem dX5_countAll_47 : decode cX5_countAll 47 = .ok (.iload_n 1, 1) := by decide +kernel
theorem dX5_countAll_48 : decode cX5_countAll 48 = .ok (.aload_n 0, 1) := by decide +kernel
theorem dX5_countAll_49 : decode cX5_countAll 49 = .ok (.iload_n 1, 1) := by decide +kernel
theorem dX5_countAll_50 : decode cX5_countAll 50 = .ok (.iconst (-1), 1) := by decide +kernel
theorem dX5_countAll_51 : decode cX5_countAll 51 = .ok (.invokevirtual 54, 3) := by decide +kernel
theorem dX5_countAll_54 : decode cX5_countAll 54 = .ok (.iastore, 1) := by decide +kernel
theorem dX5_countAll_55 : decode cX5_countAll 55 = .ok (.aload_n 0, 1) := by decide +kernel
theorem dX5_countAll_56 : decode cX5_countAll 56 = .ok (.getfield 18, 3) := by decide +kernel
theorem dX5_countAll_59 : decode cX5_countAll 59 = .ok (.aload_n 0, 1) := by decide +kernel
theorem dX5_countAll_60 : decode cX5_countAll 60 = .ok (.getfield 24, 3) := by decide +kernel
theorem dX5_countAll_63 : decode cX5_countAll 63 = .ok (.iload_n 1, 1) := by decide +kernel
theorem dX5_countAll_64 : decode cX5_countAll 64 = .ok (.iastore, 1) := by decide +kernel
theorem dX5_countAll_65 : decode cX5_countAll 65 = .ok (.aload_n 0, 1) := by decide +kernel
theorem dX5_countAll_66 : decode cX5_countAll 66 = .ok (.dup, 1) := by decide +kernel
theorem dX5_countAll_67 : decode cX5_countAll 67 = .ok (.getfield 24, 3) := by decide +kernel
theorem dX5_countAll_70 : decode cX5_countAll 70 = .ok (.iconst 1, 1) := by decide +kernel
theorem dX5_countAll_71 : decode cX5_countAll 71 = .ok (.iadd, 1) := by decide +kernel
theorem dX5_countAll_72 : decode cX5_countAll 72 = .ok (.putfield 24, 3) := by decide +kernel
theorem dX5_countAll_75 : decode cX5_countAll 75 = .ok (.iinc 1 1, 3) := by decide +kernel
theorem dX5_countAll_78 : decode cX5_countAll 78 = .ok (.goto (-71), 3) := by decide +kernel
theorem dX5_countAll_81 : decode cX5_countAll 81 = .ok (.aload_n 0, 1) := by decide +kernel
theorem dX5_countAll_82 : decode cX5_countAll 82 = .ok (.getfield 18, 3) := by decide +kernel
theorem dX5_countAll_85 : decode cX5_countAll 85 = .ok (.aload_n 0, 1) := by decide +kernel
theorem dX5_countAll_86 : decode cX5_countAll 86 = .ok (.getfield 24, 3) := by decide +kernel
theorem dX5_countAll_89 : decode cX5_countAll 89 = .ok (.aload_n 0, 1) := by decide +kernel
theorem dX5_countAll_90 : decode cX5_countAll 90 = .ok (.getfield 21, 3) := by decide +kernel
theorem dX5_countAll_93 : decode cX5_countAll 93 = .ok (.invokestatic 58, 3) := by decide +kernel
theorem dX5_countAll_96 : decode cX5_countAll 96 = .ok (.return_, 1) := by decide +kernel
theorem dX5_addPoints_0 : decode cX5_addPoints 0 = .ok (.iconst 0, 1) := by decide +kernel
theorem dX5_addPoints_1 : decode cX5_addPoints 1 = .ok (.istore_n 2, 1) := by decide +kernel
theorem dX5_addPoints_2 : decode cX5_addPoints 2 = .ok (.iload_n 2, 1) := by decide +kernel
theorem dX5_addPoints_3 : decode cX5_addPoints 3 = .ok (.bipush 8, 2) := by decide +kernel
theorem dX5_addPoints_5 : decode cX5_addPoints 5 = .ok (.if_icmp .ge 49, 3) := by decide +kernel
theorem dX5_addPoints_8 : decode cX5_addPoints 8 = .ok (.aload_n 0, 1) := by decide +kernel
theorem dX5_addPoints_9 : decode cX5_addPoints 9 = .ok (.getfield 9, 3) := by decide +kernel
theorem dX5_addPoints_12 : decode cX5_addPoints 12 = .ok (.iload_n 1, 1) := by decide +kernel
theorem dX5_addPoints_13 : decode cX5_addPoints 13 = .ok (.dup2, 1) := by decide +kernel
theorem dX5_addPoints_14 : decode cX5_addPoints 14 = .ok (.iaload, 1) := by decide +kernel
theorem dX5_addPoints_15 : decode cX5_addPoints 15 = .ok (.aload_n 0, 1) := by decide +kernel
theorem dX5_addPoints_16 : decode cX5_addPoints 16 = .ok (.getfield 36, 3) := by decide +kernel
theorem dX5_addPoints_19 : decode cX5_addPoints 19 = .ok (.getfield 62, 3) := by decide +kernel
theorem dX5_addPoints_22 : decode cX5_addPoints 22 = .ok (.iload_n 2, 1) := by decide +kernel
theorem dX5_addPoints_23 : decode cX5_addPoints 23 = .ok (.aaload, 1) := by decide +kernel
theorem dX5_addPoints_24 : decode cX5_addPoints 24 = .ok (.iload_n 1, 1) := by decide +kernel
theorem dX5_addPoints_25 : decode cX5_addPoints 25 = .ok (.iaload, 1) := by decide +kernel
theorem dX5_addPoints_26 : decode cX5_addPoints 26 = .ok (.iadd, 1) := by decide +kernel
theorem dX5_addPoints_27 : decode cX5_addPoints 27 = .ok (.iastore, 1) := by decide +kernel
theorem dX5_addPoints_28 : decode cX5_addPoints 28 = .ok (.aload_n 0, 1) := by decide +kernel
theorem dX5_addPoints_29 : decode cX5_addPoints 29 = .ok (.getfield 15, 3) := by decide +kernel
theorem dX5_addPoints_32 : decode cX5_addPoints 32 = .ok (.iload_n 1, 1) := by decide +kernel
theorem dX5_addPoints_33 : decode cX5_addPoints 33 = .ok (.dup2, 1) := by decide +kernel
theorem dX5_addPoints_34 : decode cX5_addPoints 34 = .ok (.iaload, 1) := by decide +kernel
theorem dX5_addPoints_35 : decode cX5_addPoints 35 = .ok (.aload_n 0, 1) := by decide +kernel
theorem dX5_addPoints_36 : decode cX5_addPoints 36 = .ok (.getfield 40, 3) := by decide +kernel
theorem dX5_addPoints_39 : decode cX5_addPoints 39 = .ok (.getfield 68, 3) := by decide +kernel
theorem dX5_addPoints_42 : decode cX5_addPoints 42 = .ok (.iload_n 2, 1) := by decide +kernel
theorem dX5_addPoints_43 : decode cX5_addPoints 43 = .ok (.aaload, 1) := by decide +kernel
theorem dX5_addPoints_44 : decode cX5_addPoints 44 = .ok (.iload_n 1, 1) := by decide +kernel
theorem dX5_addPoints_45 : decode cX5_addPoints 45 = .ok (.iaload, 1) := by decide +kernel
theorem dX5_addPoints_46 : decode cX5_addPoints 46 = .ok (.iadd, 1) := by decide +kernel
theorem dX5_addPoints_47 : decode cX5_addPoints 47 = .ok (.iastore, 1) := by decide +kernel
theorem dX5_addPoints_48 : decode cX5_addPoints 48 = .ok (.iinc 2 1, 3) := by decide +kernel
theorem dX5_addPoints_51 : decode cX5_addPoints 51 = .ok (.goto (-49), 3) := by decide +kernel
theorem dX5_addPoints_54 : decode cX5_addPoints 54 = .ok (.return_, 1) := by decide +kernel
theorem dX5_keyWithout_0 : decode cX5_keyWithout 0 = .ok (.iconst 0, 1) := by decide +kernel
theorem dX5_keyWithout_1 : decode cX5_keyWithout 1 = .ok (.istore_n 3, 1) := by decide +kernel
theorem dX5_keyWithout_2 : decode cX5_keyWithout 2 = .ok (.iconst 0, 1) := by decide +kernel
theorem dX5_keyWithout_3 : decode cX5_keyWithout 3 = .ok (.istore 4, 2) := by decide +kernel
theorem dX5_keyWithout_5 : decode cX5_keyWithout 5 = .ok (.iconst 0, 1) := by decide +kernel
theorem dX5_keyWithout_6 : decode cX5_keyWithout 6 = .ok (.istore 5, 2) := by decide +kernel
theorem dX5_keyWithout_8 : decode cX5_keyWithout 8 = .ok (.iconst 0, 1) := by decide +kernel
theorem dX5_keyWithout_9 : decode cX5_keyWithout 9 = .ok (.istore 6, 2) := by decide +kernel
theorem dX5_keyWithout_11 : decode cX5_keyWithout 11 = .ok (.iconst 0, 1) := by decide +kernel
theorem dX5_keyWithout_12 : decode cX5_keyWithout 12 = .ok (.istore 7, 2) := by decide +kernel
theorem dX5_keyWithout_14 : decode cX5_keyWithout 14 = .ok (.iload 7, 2) := by decide +kernel
theorem dX5_keyWithout_16 : decode cX5_keyWithout 16 = .ok (.bipush 8, 2) := by decide +kernel
theorem dX5_keyWithout_18 : decode cX5_keyWithout 18 = .ok (.if_icmp .ge 86, 3) := by decide +kernel
theorem dX5_keyWithout_21 : decode cX5_keyWithout 21 = .ok (.iload 7, 2) := by decide +kernel
theorem dX5_keyWithout_23 : decode cX5_keyWithout 23 = .ok (.iload_n 2, 1) := by decide +kernel
theorem dX5_keyWithout_24 : decode cX5_keyWithout 24 = .ok (.if_icmp .eq 74, 3) := by decide +kernel
theorem dX5_keyWithout_27 : decode cX5_keyWithout 27 = .ok (.aload_n 0, 1) := by decide +kernel
theorem dX5_keyWithout_28 : decode cX5_keyWithout 28 = .ok (.getfield 40, 3) := by decide +kernel
theorem dX5_keyWithout_31 : decode cX5_keyWithout 31 = .ok (.getfield 68, 3) := by decide +kernel
theorem dX5_keyWithout_34 : decode cX5_keyWithout 34 = .ok (.iload 7, 2) := by decide +kernel
theorem dX5_keyWithout_36 : decode cX5_keyWithout 36 = .ok (.aaload, 1) := by decide +kernel
theorem dX5_keyWithout_37 : decode cX5_keyWithout 37 = .ok (.iload_n 1, 1) := by decide +kernel
theorem dX5_keyWithout_38 : decode cX5_keyWithout 38 = .ok (.iaload, 1) := by decide +kernel
theorem dX5_keyWithout_39 : decode cX5_keyWithout 39 = .ok (.istore 8, 2) := by decide +kernel
theorem dX5_keyWithout_41 : decode cX5_keyWithout 41 = .ok (.iload_n 3, 1) := by decide +kernel
theorem dX5_keyWithout_42 : decode cX5_keyWithout 42 = .ok (.aload_n 0, 1) := by decide +kernel
theorem dX5_keyWithout_43 : decode cX5_keyWithout 43 = .ok (.getfield 36, 3) := by decide +kernel
theorem dX5_keyWithout_46 : decode cX5_keyWithout 46 = .ok (.getfield 62, 3) := by decide +kernel
theorem dX5_keyWithout_49 : decode cX5_keyWithout 49 = .ok (.iload 7, 2) := by decide +kernel
theorem dX5_keyWithout_51 : decode cX5_keyWithout 51 = .ok (.aaload, 1) := by decide +kernel
theorem dX5_keyWithout_52 : decode cX5_keyWithout 52 = .ok (.iload_n 1, 1) := by decide +kernel
theorem dX5_keyWithout_53 : decode cX5_keyWithout 53 = .ok (.iaload, 1) := by decide +kernel
theorem dX5_keyWithout_54 : decode cX5_keyWithout 54 = .ok (.iload 8, 2) := by decide +kernel
theorem dX5_keyWithout_56 : decode cX5_keyWithout 56 = .ok (.iadd, 1) := by decide +kernel
theorem dX5_keyWithout_57 : decode cX5_keyWithout 57 = .ok (.iadd, 1) := by decide +kernel
theorem dX5_keyWithout_58 : decode cX5_keyWithout 58 = .ok (.istore_n 3, 1) := by decide +kernel
theorem dX5_keyWithout_59 : decode cX5_keyWithout 59 = .ok (.iload 4, 2) := by decide +kernel
theorem dX5_keyWithout_61 : decode cX5_keyWithout 61 = .ok (.iload 8, 2) := by decide +kernel
theorem dX5_keyWithout_63 : decode cX5_keyWithout 63 = .ok (.iadd, 1) := by decide +kernel
theorem dX5_keyWithout_64 : decode cX5_keyWithout 64 = .ok (.istore 4, 2) := by decide +kernel
theorem dX5_keyWithout_66 : decode cX5_keyWithout 66 = .ok (.iload 5, 2) := by decide +kernel
theorem dX5_keyWithout_68 : decode cX5_keyWithout 68 = .ok (.iload 8, 2) := by decide +kernel
theorem dX5_keyWithout_70 : decode cX5_keyWithout 70 = .ok (.ifCond .le 7, 3) := by decide +kernel
theorem dX5_keyWithout_73 : decode cX5_keyWithout 73 = .ok (.iconst 1, 1) := by decide +kernel
theorem dX5_keyWithout_74 : decode cX5_keyWithout 74 = .ok (.goto 4, 3) := by decide +kernel
theorem dX5_keyWithout_77 : decode cX5_keyWithout 77 = .ok (.iconst 0, 1) := by decide +kernel
theorem dX5_keyWithout_78 : decode cX5_keyWithout 78 = .ok (.iadd, 1) := by decide +kernel
theorem dX5_keyWithout_79 : decode cX5_keyWithout 79 = .ok (.istore 5, 2) := by decide +kernel
theorem dX5_keyWithout_81 : decode cX5_keyWithout 81 = .ok (.iload 6, 2) := by decide +kernel
theorem dX5_keyWithout_83 : decode cX5_keyWithout 83 = .ok (.iload 8, 2) := by decide +kernel
theorem dX5_keyWithout_85 : decode cX5_keyWithout 85 = .ok (.bipush 12, 2) := by decide +kernel
theorem dX5_keyWithout_87 : decode cX5_keyWithout 87 = .ok (.if_icmp .ne 7, 3) := by decide +kernel
theorem dX5_keyWithout_90 : decode cX5_keyWithout 90 = .ok (.iconst 1, 1) := by decide +kernel
theorem dX5_keyWithout_91 : decode cX5_keyWithout 91 = .ok (.goto 4, 3) := by decide +kernel
theorem dX5_keyWithout_94 : decode cX5_keyWithout 94 = .ok (.iconst 0, 1) := by decide +kernel
theorem dX5_keyWithout_95 : decode cX5_keyWithout 95 = .ok (.iadd, 1) := by decide +kernel
theorem dX5_keyWithout_96 : decode cX5_keyWithout 96 = .ok (.istore 6, 2) := by decide +kernel
theorem dX5_keyWithout_98 : decode cX5_keyWithout 98 = .ok (.iinc 7 1, 3) := by decide +kernel
theorem dX5_keyWithout_101 : decode cX5_keyWithout 101 = .ok (.goto (-87), 3) := by decide +kernel
theorem dX5_keyWithout_104 : decode cX5_keyWithout 104 = .ok (.bipush 8, 2) := by decide +kernel
theorem dX5_keyWithout_106 : decode cX5_keyWithout 106 = .ok (.aload_n 0, 1) := by decide +kernel
theorem dX5_keyWithout_107 : decode cX5_keyWithout 107 = .ok (.getfield 32, 3) := by decide +kernel
theorem dX5_keyWithout_110 : decode cX5_keyWithout 110 = .ok (.iload_n 1, 1) := by decide +kernel
theorem dX5_keyWithout_111 : decode cX5_keyWithout 111 = .ok (.invokevirtual 71, 3) := by decide +kernel
theorem dX5_keyWithout_114 : decode cX5_keyWithout 114 = .ok (.isub, 1) := by decide +kernel
theorem dX5_keyWithout_115 : decode cX5_keyWithout 115 = .ok (.istore 7, 2) := by decide +kernel
theorem dX5_keyWithout_117 : decode cX5_keyWithout 117 = .ok (.iload_n 3, 1) := by decide +kernel
theorem dX5_keyWithout_118 : decode cX5_keyWithout 118 = .ok (.bipush 100, 2) := by decide +kernel
theorem dX5_keyWithout_120 : decode cX5_keyWithout 120 = .ok (.imul, 1) := by decide +kernel
theorem dX5_keyWithout_121 : decode cX5_keyWithout 121 = .ok (.iload 4, 2) := by decide +kernel
theorem dX5_keyWithout_123 : decode cX5_keyWithout 123 = .ok (.iadd, 1) := by decide +kernel
theorem dX5_keyWithout_124 : decode cX5_keyWithout 124 = .ok (.bipush 10, 2) := by decide +kernel
theorem dX5_keyWithout_126 : decode cX5_keyWithout 126 = .ok (.imul, 1) := by decide +kernel
theorem dX5_keyWithout_127 : decode cX5_keyWithout 127 = .ok (.iload 5, 2) := by decide +kernel
theorem dX5_keyWithout_129 : decode cX5_keyWithout 129 = .ok (.iadd, 1) := by decide +kernel
theorem dX5_keyWithout_130 : decode cX5_keyWithout 130 = .ok (.bipush 10, 2) := by decide +kernel
theorem dX5_keyWithout_132 : decode cX5_keyWithout 132 = .ok (.imul, 1) := by decide +kernel
theorem dX5_keyWithout_133 : decode cX5_keyWithout 133 = .ok (.iload 6, 2) := by decide +kernel
theorem dX5_keyWithout_135 : decode cX5_keyWithout 135 = .ok (.iadd, 1) := by decide +kernel
theorem dX5_keyWithout_136 : decode cX5_keyWithout 136 = .ok (.bipush 10, 2) := by decide +kernel
theorem dX5_keyWithout_138 : decode cX5_keyWithout 138 = .ok (.imul, 1) := by decide +kernel
theorem dX5_keyWithout_139 : decode cX5_keyWithout 139 = .ok (.iload 7, 2) := by decide +kernel
theorem dX5_keyWithout_141 : decode cX5_keyWithout 141 = .ok (.iadd, 1) := by decide +kernel
theorem dX5_keyWithout_142 : decode cX5_keyWithout 142 = .ok (.ireturn, 1) := by decide +kernel
theorem dX5_leaderWithout_0 : decode cX5_leaderWithout 0 = .ok (.iconst (-1), 1) := by decide +kernel
theorem dX5_leaderWithout_1 : decode cX5_leaderWithout 1 = .ok (.istore_n 2, 1) := by decide +kernel
theorem dX5_leaderWithout_2 : decode cX5_leaderWithout 2 = .ok (.iconst 0, 1) := by decide +kernel
theorem dX5_leaderWithout_3 : decode cX5_leaderWithout 3 = .ok (.istore_n 3, 1) := by decide +kernel
theorem dX5_leaderWithout_4 : decode cX5_leaderWithout 4 = .ok (.iconst 0, 1) := by decide +kernel
theorem dX5_leaderWithout_5 : decode cX5_leaderWithout 5 = .ok (.istore 4, 2) := by decide +kernel
theorem dX5_leaderWithout_7 : decode cX5_leaderWithout 7 = .ok (.iload 4, 2) := by decide +kernel
theorem dX5_leaderWithout_9 : decode cX5_leaderWithout 9 = .ok (.bipush 8, 2) := by decide +kernel
theorem dX5_leaderWithout_11 : decode cX5_leaderWithout 11 = .ok (.if_icmp .ge 46, 3) := by decide +kernel
theorem dX5_leaderWithout_14 : decode cX5_leaderWithout 14 = .ok (.aload_n 0, 1) := by decide +kernel
theorem dX5_leaderWithout_15 : decode cX5_leaderWithout 15 = .ok (.getfield 28, 3) := by decide +kernel
theorem dX5_leaderWithout_18 : decode cX5_leaderWithout 18 = .ok (.iload 4, 2) := by decide +kernel
theorem dX5_leaderWithout_20 : decode cX5_leaderWithout 20 = .ok (.invokevirtual 44, 3) := by decide +kernel
theorem dX5_leaderWithout_23 : decode cX5_leaderWithout 23 = .ok (.ifCond .eq 13, 3) := by decide +kernel
theorem dX5_leaderWithout_26 : decode cX5_leaderWithout 26 = .ok (.aload_n 0, 1) := by decide +kernel
theorem dX5_leaderWithout_27 : decode cX5_leaderWithout 27 = .ok (.iload 4, 2) := by decide +kernel
theorem dX5_leaderWithout_29 : decode cX5_leaderWithout 29 = .ok (.iload_n 1, 1) := by decide +kernel
theorem dX5_leaderWithout_30 : decode cX5_leaderWithout 30 = .ok (.invokevirtual 54, 3) := by decide +kernel
theorem dX5_leaderWithout_33 : decode cX5_leaderWithout 33 = .ok (.goto 4, 3) := by decide +kernel
theorem dX5_leaderWithout_36 : decode cX5_leaderWithout 36 = .ok (.iconst 0, 1) := by decide +kernel
theorem dX5_leaderWithout_37 : decode cX5_leaderWithout 37 = .ok (.istore 5, 2) := by decide +kernel
theorem dX5_leaderWithout_39 : decode cX5_leaderWithout 39 = .ok (.iload 5, 2) := by decide +kernel
theorem dX5_leaderWithout_41 : decode cX5_leaderWithout 41 = .ok (.iload_n 3, 1) := by decide +kernel
theorem dX5_leaderWithout_42 : decode cX5_leaderWithout 42 = .ok (.if_icmp .le 9, 3) := by decide +kernel
theorem dX5_leaderWithout_45 : decode cX5_leaderWithout 45 = .ok (.iload 5, 2) := by decide +kernel
theorem dX5_leaderWithout_47 : decode cX5_leaderWithout 47 = .ok (.istore_n 3, 1) := by decide +kernel
theorem dX5_leaderWithout_48 : decode cX5_leaderWithout 48 = .ok (.iload 4, 2) := by decide +kernel
theorem dX5_leaderWithout_50 : decode cX5_leaderWithout 50 = .ok (.istore_n 2, 1) := by decide +kernel
theorem dX5_leaderWithout_51 : decode cX5_leaderWithout 51 = .ok (.iinc 4 1, 3) := by decide +kernel
theorem dX5_leaderWithout_54 : decode cX5_leaderWithout 54 = .ok (.goto (-47), 3) := by decide +kernel
theorem dX5_leaderWithout_57 : decode cX5_leaderWithout 57 = .ok (.iload_n 2, 1) := by decide +kernel
theorem dX5_leaderWithout_58 : decode cX5_leaderWithout 58 = .ok (.ireturn, 1) := by decide +kernel
theorem dX5_songAt_0 : decode cX5_songAt 0 = .ok (.iload_n 1, 1) := by decide +kernel
theorem dX5_songAt_1 : decode cX5_songAt 1 = .ok (.iconst 0, 1) := by decide +kernel
theorem dX5_songAt_2 : decode cX5_songAt 2 = .ok (.aload_n 0, 1) := by decide +kernel
theorem dX5_songAt_3 : decode cX5_songAt 3 = .ok (.getfield 24, 3) := by decide +kernel
theorem dX5_songAt_6 : decode cX5_songAt 6 = .ok (.iconst 1, 1) := by decide +kernel
theorem dX5_songAt_7 : decode cX5_songAt 7 = .ok (.isub, 1) := by decide +kernel
theorem dX5_songAt_8 : decode cX5_songAt 8 = .ok (.invokestatic 77, 3) := by decide +kernel
theorem dX5_songAt_11 : decode cX5_songAt 11 = .ok (.ifCond .eq 12, 3) := by decide +kernel
theorem dX5_songAt_14 : decode cX5_songAt 14 = .ok (.aload_n 0, 1) := by decide +kernel
theorem dX5_songAt_15 : decode cX5_songAt 15 = .ok (.getfield 18, 3) := by decide +kernel
theorem dX5_songAt_18 : decode cX5_songAt 18 = .ok (.iload_n 1, 1) := by decide +kernel
theorem dX5_songAt_19 : decode cX5_songAt 19 = .ok (.iaload, 1) := by decide +kernel
theorem dX5_songAt_20 : decode cX5_songAt 20 = .ok (.goto 4, 3) := by decide +kernel
theorem dX5_songAt_23 : decode cX5_songAt 23 = .ok (.iconst (-1), 1) := by decide +kernel
theorem dX5_songAt_24 : decode cX5_songAt 24 = .ok (.ireturn, 1) := by decide +kernel
theorem dX5_rankOf_0 : decode cX5_rankOf 0 = .ok (.iconst 0, 1) := by decide +kernel
theorem dX5_rankOf_1 : decode cX5_rankOf 1 = .ok (.istore_n 2, 1) := by decide +kernel
theorem dX5_rankOf_2 : decode cX5_rankOf 2 = .ok (.iload_n 2, 1) := by decide +kernel
theorem dX5_rankOf_3 : decode cX5_rankOf 3 = .ok (.aload_n 0, 1) := by decide +kernel
theorem dX5_rankOf_4 : decode cX5_rankOf 4 = .ok (.getfield 24, 3) := by decide +kernel
theorem dX5_rankOf_7 : decode cX5_rankOf 7 = .ok (.if_icmp .ge 21, 3) := by decide +kernel
theorem dX5_rankOf_10 : decode cX5_rankOf 10 = .ok (.aload_n 0, 1) := by decide +kernel
theorem dX5_rankOf_11 : decode cX5_rankOf 11 = .ok (.getfield 18, 3) := by decide +kernel
theorem dX5_rankOf_14 : decode cX5_rankOf 14 = .ok (.iload_n 2, 1) := by decide +kernel
theorem dX5_rankOf_15 : decode cX5_rankOf 15 = .ok (.iaload, 1) := by decide +kernel
theorem dX5_rankOf_16 : decode cX5_rankOf 16 = .ok (.iload_n 1, 1) := by decide +kernel
theorem dX5_rankOf_17 : decode cX5_rankOf 17 = .ok (.if_icmp .ne 5, 3) := by decide +kernel
theorem dX5_rankOf_20 : decode cX5_rankOf 20 = .ok (.iload_n 2, 1) := by decide +kernel
theorem dX5_rankOf_21 : decode cX5_rankOf 21 = .ok (.ireturn, 1) := by decide +kernel
theorem dX5_rankOf_22 : decode cX5_rankOf 22 = .ok (.iinc 2 1, 3) := by decide +kernel
theorem dX5_rankOf_25 : decode cX5_rankOf 25 = .ok (.goto (-23), 3) := by decide +kernel
theorem dX5_rankOf_28 : decode cX5_rankOf 28 = .ok (.iconst (-1), 1) := by decide +kernel
theorem dX5_rankOf_29 : decode cX5_rankOf 29 = .ok (.ireturn, 1) := by decide +kernel
theorem dX5_sumOfTotals_0 : decode cX5_sumOfTotals 0 = .ok (.iconst 0, 1) := by decide +kernel
theorem dX5_sumOfTotals_1 : decode cX5_sumOfTotals 1 = .ok (.istore_n 1, 1) := by decide +kernel
theorem dX5_sumOfTotals_2 : decode cX5_sumOfTotals 2 = .ok (.iconst 0, 1) := by decide +kernel
theorem dX5_sumOfTotals_3 : decode cX5_sumOfTotals 3 = .ok (.istore_n 2, 1) := by decide +kernel
theorem dX5_sumOfTotals_4 : decode cX5_sumOfTotals 4 = .ok (.iload_n 2, 1) := by decide +kernel
theorem dX5_sumOfTotals_5 : decode cX5_sumOfTotals 5 = .ok (.bipush 8, 2) := by decide +kernel
theorem dX5_sumOfTotals_7 : decode cX5_sumOfTotals 7 = .ok (.if_icmp .ge 25, 3) := by decide +kernel
theorem dX5_sumOfTotals_10 : decode cX5_sumOfTotals 10 = .ok (.iload_n 1, 1) := by decide +kernel
theorem dX5_sumOfTotals_11 : decode cX5_sumOfTotals 11 = .ok (.aload_n 0, 1) := by decide +kernel
theorem dX5_sumOfTotals_12 : decode cX5_sumOfTotals 12 = .ok (.getfield 9, 3) := by decide +kernel
theorem dX5_sumOfTotals_15 : decode cX5_sumOfTotals 15 = .ok (.iload_n 2, 1) := by decide +kernel
theorem dX5_sumOfTotals_16 : decode cX5_sumOfTotals 16 = .ok (.iaload, 1) := by decide +kernel
theorem dX5_sumOfTotals_17 : decode cX5_sumOfTotals 17 = .ok (.aload_n 0, 1) := by decide +kernel
theorem dX5_sumOfTotals_18 : decode cX5_sumOfTotals 18 = .ok (.getfield 15, 3) := by decide +kernel
theorem dX5_sumOfTotals_21 : decode cX5_sumOfTotals 21 = .ok (.iload_n 2, 1) := by decide +kernel
theorem dX5_sumOfTotals_22 : decode cX5_sumOfTotals 22 = .ok (.iaload, 1) := by decide +kernel
theorem dX5_sumOfTotals_23 : decode cX5_sumOfTotals 23 = .ok (.iadd, 1) := by decide +kernel
theorem dX5_sumOfTotals_24 : decode cX5_sumOfTotals 24 = .ok (.iadd, 1) := by decide +kernel
theorem dX5_sumOfTotals_25 : decode cX5_sumOfTotals 25 = .ok (.istore_n 1, 1) := by decide +kernel
theorem dX5_sumOfTotals_26 : decode cX5_sumOfTotals 26 = .ok (.iinc 2 1, 3) := by decide +kernel
theorem dX5_sumOfTotals_29 : decode cX5_sumOfTotals 29 = .ok (.goto (-25), 3) := by decide +kernel
theorem dX5_sumOfTotals_32 : decode cX5_sumOfTotals 32 = .ok (.iload_n 1, 1) := by decide +kernel
theorem dX5_sumOfTotals_33 : decode cX5_sumOfTotals 33 = .ok (.ireturn, 1) := by decide +kernel
theorem dX6_init_0 : decode cX6_init 0 = .ok (.aload_n 0, 1) := by decide +kernel
theorem dX6_init_1 : decode cX6_init 1 = .ok (.invokespecial 1, 3) := by decide +kernel
theorem dX6_init_4 : decode cX6_init 4 = .ok (.aload_n 0, 1) := by decide +kernel
theorem dX6_init_5 : decode cX6_init 5 = .ok (.sipush 180, 3) := by decide +kernel
theorem dX6_init_8 : decode cX6_init 8 = .ok (.putfield 7, 3) := by decide +kernel
theorem dX6_init_11 : decode cX6_init 11 = .ok (.aload_n 0, 1) := by decide +kernel
theorem dX6_init_12 : decode cX6_init 12 = .ok (.bipush 6, 2) := by decide +kernel
theorem dX6_init_14 : decode cX6_init 14 = .ok (.putfield 13, 3) := by decide +kernel
theorem dX6_init_17 : decode cX6_init 17 = .ok (.aload_n 0, 1) := by decide +kernel
theorem dX6_init_18 : decode cX6_init 18 = .ok (.bipush 10, 2) := by decide +kernel
theorem dX6_init_20 : decode cX6_init 20 = .ok (.putfield 16, 3) := by decide +kernel
theorem dX6_init_23 : decode cX6_init 23 = .ok (.aload_n 0, 1) := by decide +kernel
theorem dX6_init_24 : decode cX6_init 24 = .ok (.bipush 10, 2) := by decide +kernel
theorem dX6_init_26 : decode cX6_init 26 = .ok (.putfield 19, 3) := by decide +kernel
theorem dX6_init_29 : decode cX6_init 29 = .ok (.aload_n 0, 1) := by decide +kernel
theorem dX6_init_30 : decode cX6_init 30 = .ok (.iconst 0, 1) := by decide +kernel
theorem dX6_init_31 : decode cX6_init 31 = .ok (.putfield 22, 3) := by decide +kernel
theorem dX6_init_34 : decode cX6_init 34 = .ok (.return_, 1) := by decide +kernel
theorem dX7_init_0 : decode cX7_init 0 = .ok (.aload_n 0, 1) := by decide +kernel
theorem dX7_init_1 : decode cX7_init 1 = .ok (.invokespecial 3, 3) := by decide +kernel
theorem dX7_init_4 : decode cX7_init 4 = .ok (.aload_n 0, 1) := by decide +kernel
theorem dX7_init_5 : decode cX7_init 5 = .ok (.iconst 0, 1) := by decide +kernel
theorem dX7_init_6 : decode cX7_init 6 = .ok (.putfield 9, 3) := by decide +kernel
theorem dX7_init_9 : decode cX7_init 9 = .ok (.aload_n 0, 1) := by decide +kernel
theorem dX7_init_10 : decode cX7_init 10 = .ok (.iconst 0, 1) := by decide +kernel
theorem dX7_init_11 : decode cX7_init 11 = .ok (.putfield 15, 3) := by decide +kernel
theorem dX7_init_14 : decode cX7_init 14 = .ok (.aload_n 0, 1) := by decide +kernel
theorem dX7_init_15 : decode cX7_init 15 = .ok (.bipush 8, 2) := by decide +kernel
theorem dX7_init_17 : decode cX7_init 17 = .ok (.newarray .boolean, 2) := by decide +kernel
theorem dX7_init_19 : decode cX7_init 19 = .ok (.putfield 18, 3) := by decide +kernel
theorem dX7_init_22 : decode cX7_init 22 = .ok (.aload_n 0, 1) := by decide +kernel
theorem dX7_init_23 : decode cX7_init 23 = .ok (.bipush 8, 2) := by decide +kernel
theorem dX7_init_25 : decode cX7_init 25 = .ok (.newarray .boolean, 2) := by decide +kernel
theorem dX7_init_27 : decode cX7_init 27 = .ok (.putfield 22, 3) := by decide +kernel
theorem dX7_init_30 : decode cX7_init 30 = .ok (.aload_n 0, 1) := by decide +kernel
theorem dX7_init_31 : decode cX7_init 31 = .ok (.bipush 8, 2) := by decide +kernel
theorem dX7_init_33 : decode cX7_init 33 = .ok (.newarray .int, 2) := by decide +kernel
theorem dX7_init_35 : decode cX7_init 35 = .ok (.putfield 25, 3) := by decide +kernel
theorem dX7_init_38 : decode cX7_init 38 = .ok (.aload_n 0, 1) := by decide +kernel
theorem dX7_init_39 : decode cX7_init 39 = .ok (.bipush 8, 2) := by decide +kernel
theorem dX7_init_41 : decode cX7_init 41 = .ok (.newarray .int, 2) := by decide +kernel
theorem dX7_init_43 : decode cX7_init 43 = .ok (.putfield 29, 3) := by decide +kernel
theorem dX7_init_46 : decode cX7_init 46 = .ok (.aload_n 0, 1) := by decide +kernel
theorem dX7_init_47 : decode cX7_init 47 = .ok (.bipush 8, 2) := by decide +kernel
theorem dX7_init_49 : decode cX7_init 49 = .ok (.newarray .int, 2) := by decide +kernel
theorem dX7_init_51 : decode cX7_init 51 = .ok (.putfield 32, 3) := by decide +kernel
theorem dX7_init_54 : decode cX7_init 54 = .ok (.return_, 1) := by decide +kernel
theorem dX7_add_0 : decode cX7_add 0 = .ok (.aload_n 0, 1) := by decide +kernel
theorem dX7_add_1 : decode cX7_add 1 = .ok (.getfield 18, 3) := by decide +kernel
theorem dX7_add_4 : decode cX7_add 4 = .ok (.iload_n 1, 1) := by decide +kernel
theorem dX7_add_5 : decode cX7_add 5 = .ok (.iconst 1, 1) := by decide +kernel
theorem dX7_add_6 : decode cX7_add 6 = .ok (.bastore, 1) := by decide +kernel
theorem dX7_add_7 : decode cX7_add 7 = .ok (.aload_n 0, 1) := by decide +kernel
theorem dX7_add_8 : decode cX7_add 8 = .ok (.getfield 25, 3) := by decide +kernel
theorem dX7_add_11 : decode cX7_add 11 = .ok (.iload_n 1, 1) := by decide +kernel
theorem dX7_add_12 : decode cX7_add 12 = .ok (.iload_n 2, 1) := by decide +kernel
theorem dX7_add_13 : decode cX7_add 13 = .ok (.iastore, 1) := by decide +kernel
theorem dX7_add_14 : decode cX7_add 14 = .ok (.aload_n 0, 1) := by decide +kernel
theorem dX7_add_15 : decode cX7_add 15 = .ok (.getfield 29, 3) := by decide +kernel
theorem dX7_add_18 : decode cX7_add 18 = .ok (.iload_n 1, 1) := by decide +kernel
theorem dX7_add_19 : decode cX7_add 19 = .ok (.iload_n 3, 1) := by decide +kernel
theorem dX7_add_20 : decode cX7_add 20 = .ok (.iastore, 1) := by decide +kernel
theorem dX7_add_21 : decode cX7_add 21 = .ok (.aload_n 0, 1) := by decide +kernel
