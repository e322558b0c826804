theorem sn_bc_0 : sn_bc 0 = cX9_init := rfl
theorem sn_oc_0 : sn_oc 0 = 9 := rfl
theorem sn_bc_1 : sn_bc 1 = cX3_init := rfl
theorem sn_oc_1 : sn_oc 1 = 3 := rfl
theorem sn_bc_2 : sn_bc 2 = cX7_init := rfl
theorem sn_oc_2 : sn_oc 2 = 7 := rfl
theorem sn_bc_3 : sn_bc 3 = cX8_init := rfl
theorem sn_oc_3 : sn_oc 3 = 8 := rfl
theorem sn_bc_4 : sn_bc 4 = cX0_init := rfl
theorem sn_oc_4 : sn_oc 4 = 0 := rfl
theorem sn_bc_5 : sn_bc 5 = cX2_init := rfl
theorem sn_oc_5 : sn_oc 5 = 2 := rfl
theorem sn_bc_6 : sn_bc 6 = cX4_init := rfl
theorem sn_oc_6 : sn_oc 6 = 4 := rfl
theorem sn_bc_7 : sn_bc 7 = cX6_init := rfl
theorem sn_oc_7 : sn_oc 7 = 6 := rfl
theorem sn_bc_8 : sn_bc 8 = cX5_init := rfl
theorem sn_oc_8 : sn_oc 8 = 5 := rfl
theorem sn_bc_9 : sn_bc 9 = cX1_init := rfl
theorem sn_oc_9 : sn_oc 9 = 1 := rfl
theorem sn_bc_10 : sn_bc 10 = cL_cell := rfl
theorem sn_oc_10 : sn_oc 10 = 10 := rfl
theorem sn_bc_11 : sn_bc 11 = cL_below := rfl
theorem sn_oc_11 : sn_oc 11 = 10 := rfl
theorem sn_bc_12 : sn_bc 12 = cX9_land := rfl
theorem sn_oc_12 : sn_oc 12 = 9 := rfl
theorem sn_bc_13 : sn_bc 13 = cX9_isWithin := rfl
theorem sn_oc_13 : sn_oc 13 = 9 := rfl
theorem sn_bc_14 : sn_bc 14 = cX9_needPhase := rfl
theorem sn_oc_14 : sn_oc 14 = 9 := rfl
theorem sn_bc_15 : sn_bc 15 = cX3_add := rfl
theorem sn_oc_15 : sn_oc 15 = 3 := rfl
theorem sn_bc_16 : sn_bc 16 = cX9_rules := rfl
theorem sn_oc_16 : sn_oc 16 = 9 := rfl
theorem sn_bc_17 : sn_bc 17 = cX9_enter := rfl
theorem sn_oc_17 : sn_oc 17 = 9 := rfl
theorem sn_bc_18 : sn_bc 18 = cX9_needLand := rfl
theorem sn_oc_18 : sn_oc 18 = 9 := rfl
theorem sn_bc_19 : sn_bc 19 = cX7_add := rfl
theorem sn_oc_19 : sn_oc 19 = 7 := rfl
theorem sn_bc_20 : sn_bc 20 = cX8_insert := rfl
theorem sn_oc_20 : sn_oc 20 = 8 := rfl
theorem sn_bc_21 : sn_bc 21 = cX9_many := rfl
theorem sn_oc_21 : sn_oc 21 = 9 := rfl
theorem sn_bc_22 : sn_bc 22 = cX9_count := rfl
theorem sn_oc_22 : sn_oc 22 = 9 := rfl
theorem sn_bc_23 : sn_bc 23 = cX2_countAll := rfl
theorem sn_oc_23 : sn_oc 23 = 2 := rfl
theorem sn_bc_24 : sn_bc 24 = cX2_countLand := rfl
theorem sn_oc_24 : sn_oc 24 = 2 := rfl
theorem sn_bc_25 : sn_bc 25 = cX0_given := rfl
theorem sn_oc_25 : sn_oc 25 = 0 := rfl
theorem sn_bc_26 : sn_bc 26 = cX0_numberOf := rfl
theorem sn_oc_26 : sn_oc 26 = 0 := rfl
theorem sn_bc_27 : sn_bc 27 = cX2_addBallots := rfl
theorem sn_oc_27 : sn_oc 27 = 2 := rfl
theorem sn_bc_28 : sn_bc 28 = cX2_clearRow := rfl
theorem sn_oc_28 : sn_oc 28 = 2 := rfl
theorem sn_bc_29 : sn_bc 29 = cX2_isCounting := rfl
theorem sn_oc_29 : sn_oc 29 = 2 := rfl
theorem sn_bc_30 : sn_bc 30 = cX0_addWeights := rfl
theorem sn_oc_30 : sn_oc 30 = 0 := rfl
theorem sn_bc_31 : sn_bc 31 = cX9_weight := rfl
theorem sn_oc_31 : sn_oc 31 = 9 := rfl
theorem sn_bc_32 : sn_bc 32 = cX2_sortCandidates := rfl
theorem sn_oc_32 : sn_oc 32 = 2 := rfl
theorem sn_bc_33 : sn_bc 33 = cX7_writeCandidates := rfl
theorem sn_oc_33 : sn_oc 33 = 7 := rfl
theorem sn_bc_34 : sn_bc 34 = cX7_isCandidate := rfl
theorem sn_oc_34 : sn_oc 34 = 7 := rfl
theorem sn_bc_35 : sn_bc 35 = cX9_sortDown := rfl
theorem sn_oc_35 : sn_oc 35 = 9 := rfl
theorem sn_bc_36 : sn_bc 36 = cX2_findOutlier := rfl
theorem sn_oc_36 : sn_oc 36 = 2 := rfl
theorem sn_bc_37 : sn_bc 37 = cX0_distance := rfl
theorem sn_oc_37 : sn_oc 37 = 0 := rfl
theorem sn_bc_38 : sn_bc 38 = Lib.Math.abs.code := rfl
theorem sn_oc_38 : sn_oc 38 = 11 := rfl
theorem sn_bc_39 : sn_bc 39 = cX2_findPraised := rfl
theorem sn_oc_39 : sn_oc 39 = 2 := rfl
theorem sn_bc_40 : sn_bc 40 = cX0_firstOn := rfl
theorem sn_oc_40 : sn_oc 40 = 0 := rfl
theorem sn_bc_41 : sn_bc 41 = cX2_voidPairs := rfl
theorem sn_oc_41 : sn_oc 41 = 2 := rfl
theorem sn_bc_42 : sn_bc 42 = cX2_borrowSums := rfl
theorem sn_oc_42 : sn_oc 42 = 2 := rfl
theorem sn_bc_43 : sn_bc 43 = cX2_addCandidates := rfl
theorem sn_oc_43 : sn_oc 43 = 2 := rfl
theorem sn_bc_44 : sn_bc 44 = cX2_givePoints := rfl
theorem sn_oc_44 : sn_oc 44 = 2 := rfl
theorem sn_bc_45 : sn_bc 45 = cX4_countLand := rfl
theorem sn_oc_45 : sn_oc 45 = 4 := rfl
theorem sn_bc_46 : sn_bc 46 = cX4_countSong := rfl
theorem sn_oc_46 : sn_oc 46 = 4 := rfl
theorem sn_bc_47 : sn_bc 47 = cX4_fullCallers := rfl
theorem sn_oc_47 : sn_oc 47 = 4 := rfl
theorem sn_bc_48 : sn_bc 48 = cX4_lineOf := rfl
theorem sn_oc_48 : sn_oc 48 = 4 := rfl
theorem sn_bc_49 : sn_bc 49 = cX4_givePoints := rfl
theorem sn_oc_49 : sn_oc 49 = 4 := rfl
theorem sn_bc_50 : sn_bc 50 = cX5_countAll := rfl
theorem sn_oc_50 : sn_oc 50 = 5 := rfl
theorem sn_bc_51 : sn_bc 51 = cX7_isRunning := rfl
theorem sn_oc_51 : sn_oc 51 = 7 := rfl
theorem sn_bc_52 : sn_bc 52 = cX5_addPoints := rfl
theorem sn_oc_52 : sn_oc 52 = 5 := rfl
theorem sn_bc_53 : sn_bc 53 = cX5_keyWithout := rfl
theorem sn_oc_53 : sn_oc 53 = 5 := rfl
theorem sn_bc_54 : sn_bc 54 = cX8_placeOf := rfl
theorem sn_oc_54 : sn_oc 54 = 8 := rfl
theorem sn_bc_55 : sn_bc 55 = cX9_numberOfContest := rfl
theorem sn_oc_55 : sn_oc 55 = 9 := rfl
theorem sn_bc_56 : sn_bc 56 = cX8_delay := rfl
theorem sn_oc_56 : sn_oc 56 = 8 := rfl
theorem sn_bc_57 : sn_bc 57 = cX8_delayOf := rfl
theorem sn_oc_57 : sn_oc 57 = 8 := rfl
theorem sn_bc_58 : sn_bc 58 = Lib.Math.max.code := rfl
theorem sn_oc_58 : sn_oc 58 = 11 := rfl
theorem sn_bc_59 : sn_bc 59 = cX9_voidJuries := rfl
theorem sn_oc_59 : sn_oc 59 = 9 := rfl
theorem sn_bc_60 : sn_bc 60 = cX9_bestMove := rfl
theorem sn_oc_60 : sn_oc 60 = 9 := rfl
theorem sn_bc_61 : sn_bc 61 = cX9_canMove := rfl
theorem sn_oc_61 : sn_oc 61 = 9 := rfl
theorem sn_bc_62 : sn_bc 62 = cX8_bestShift := rfl
theorem sn_oc_62 : sn_oc 62 = 8 := rfl
theorem sn_bc_63 : sn_bc 63 = cX8_isOfHalf := rfl
theorem sn_oc_63 : sn_oc 63 = 8 := rfl
theorem sn_bc_64 : sn_bc 64 = cX8_delayWith := rfl
theorem sn_oc_64 : sn_oc 64 = 8 := rfl
theorem sn_bc_65 : sn_bc 65 = cX8_writeTrial := rfl
theorem sn_oc_65 : sn_oc 65 = 8 := rfl
theorem sn_bc_66 : sn_bc 66 = cX9_move := rfl
theorem sn_oc_66 : sn_oc 66 = 9 := rfl
theorem sn_bc_67 : sn_bc 67 = cX8_shift := rfl
theorem sn_oc_67 : sn_oc 67 = 8 := rfl
theorem sn_bc_68 : sn_bc 68 = cX9_start := rfl
theorem sn_oc_68 : sn_oc 68 = 9 := rfl
theorem sn_bc_69 : sn_bc 69 = cX9_at := rfl
theorem sn_oc_69 : sn_oc 69 = 9 := rfl
theorem sn_bc_70 : sn_bc 70 = cX9_jury := rfl
theorem sn_oc_70 : sn_oc 70 = 9 := rfl
theorem sn_bc_71 : sn_bc 71 = cX7_candidatesOf := rfl
theorem sn_oc_71 : sn_oc 71 = 7 := rfl
theorem sn_bc_72 : sn_bc 72 = cX7_running := rfl
theorem sn_oc_72 : sn_oc 72 = 7 := rfl
theorem sn_bc_73 : sn_bc 73 = cX9_ordersOf := rfl
theorem sn_oc_73 : sn_oc 73 = 9 := rfl
theorem sn_bc_74 : sn_bc 74 = cX0_write := rfl
theorem sn_oc_74 : sn_oc 74 = 0 := rfl
theorem sn_bc_75 : sn_bc 75 = cX9_ofSong := rfl
theorem sn_oc_75 : sn_oc 75 = 9 := rfl
theorem sn_bc_76 : sn_bc 76 = cX9_needSong := rfl
theorem sn_oc_76 : sn_oc 76 = 9 := rfl
theorem sn_bc_77 : sn_bc 77 = cX9_numberOfSong := rfl
theorem sn_oc_77 : sn_oc 77 = 9 := rfl
theorem sn_bc_78 : sn_bc 78 = cX5_rankOf := rfl
theorem sn_oc_78 : sn_oc 78 = 5 := rfl
theorem sn_bc_79 : sn_bc 79 = cX1_juryOf := rfl
theorem sn_oc_79 : sn_oc 79 = 1 := rfl
theorem sn_bc_80 : sn_bc 80 = cX9_call := rfl
theorem sn_oc_80 : sn_oc 80 = 9 := rfl
theorem sn_bc_81 : sn_bc 81 = cX4_take := rfl
theorem sn_oc_81 : sn_oc 81 = 4 := rfl
theorem sn_bc_82 : sn_bc 82 = Lib.Math.min.code := rfl
theorem sn_oc_82 : sn_oc 82 = 11 := rfl
theorem sn_bc_83 : sn_bc 83 = cX9_disqualify := rfl
theorem sn_oc_83 : sn_oc 83 = 9 := rfl
theorem sn_bc_84 : sn_bc 84 = cX7_putOut := rfl
theorem sn_oc_84 : sn_oc 84 = 7 := rfl
theorem sn_bc_85 : sn_bc 85 = cX0_takeOut := rfl
theorem sn_oc_85 : sn_oc 85 = 0 := rfl
theorem sn_bc_86 : sn_bc 86 = cX1_wipe := rfl
theorem sn_oc_86 : sn_oc 86 = 1 := rfl
theorem sn_bc_87 : sn_bc 87 = cL_areGiven := rfl
theorem sn_oc_87 : sn_oc 87 = 10 := rfl
theorem sn_bc_88 : sn_bc 88 = cL_has := rfl
theorem sn_oc_88 : sn_oc 88 = 10 := rfl
theorem sn_bc_89 : sn_bc 89 = cX9_gives := rfl
theorem sn_oc_89 : sn_oc 89 = 9 := rfl
theorem sn_bc_90 : sn_bc 90 = cX9_ofLand := rfl
theorem sn_oc_90 : sn_oc 90 = 9 := rfl
theorem sn_bc_91 : sn_bc 91 = cX9_numberOfLand := rfl
theorem sn_oc_91 : sn_oc 91 = 9 := rfl
theorem sn_bc_92 : sn_bc 92 = cX9_ranked := rfl
theorem sn_oc_92 : sn_oc 92 = 9 := rfl
theorem sn_bc_93 : sn_bc 93 = cX5_songAt := rfl
theorem sn_oc_93 : sn_oc 93 = 5 := rfl
theorem sn_bc_94 : sn_bc 94 = cX9_meanTotal := rfl
theorem sn_oc_94 : sn_oc 94 = 9 := rfl
theorem sn_bc_95 : sn_bc 95 = cX5_sumOfTotals := rfl
theorem sn_oc_95 : sn_oc 95 = 5 := rfl
theorem sn_bc_96 : sn_bc 96 = cX9_close := rfl
theorem sn_oc_96 : sn_oc 96 = 9 := rfl
theorem sn_bc_97 : sn_bc 97 = cL_isRead := rfl
theorem sn_oc_97 : sn_oc 97 = 10 := rfl
theorem sn_bc_98 : sn_bc 98 = cX9_nextRead := rfl
theorem sn_oc_98 : sn_oc 98 = 9 := rfl
theorem sn_bc_99 : sn_bc 99 = cX9_closestLand := rfl
theorem sn_oc_99 : sn_oc 99 = 9 := rfl
theorem sn_bc_100 : sn_bc 100 = cX1_canRead := rfl
theorem sn_oc_100 : sn_oc 100 = 1 := rfl
theorem sn_bc_101 : sn_bc 101 = cX1_leadWith := rfl
theorem sn_oc_101 : sn_oc 101 = 1 := rfl
theorem sn_bc_102 : sn_bc 102 = cX9_read := rfl
theorem sn_oc_102 : sn_oc 102 = 9 := rfl
theorem sn_bc_103 : sn_bc 103 = cX1_takeLand := rfl
theorem sn_oc_103 : sn_oc 103 = 1 := rfl
theorem sn_bc_104 : sn_bc 104 = cX1_put := rfl
theorem sn_oc_104 : sn_oc 104 = 1 := rfl
theorem sn_bc_105 : sn_bc 105 = cX2_topOf := rfl
theorem sn_oc_105 : sn_oc 105 = 2 := rfl
theorem sn_bc_106 : sn_bc 106 = cX9_correct := rfl
theorem sn_oc_106 : sn_oc 106 = 9 := rfl
theorem sn_bc_107 : sn_bc 107 = cX9_readCalls := rfl
theorem sn_oc_107 : sn_oc 107 = 9 := rfl
theorem sn_bc_108 : sn_bc 108 = cX1_nextSong := rfl
theorem sn_oc_108 : sn_oc 108 = 1 := rfl
theorem sn_bc_109 : sn_bc 109 = cX1_takeCalls := rfl
theorem sn_oc_109 : sn_oc 109 = 1 := rfl
theorem sn_bc_110 : sn_bc 110 = cX9_isOpen := rfl
theorem sn_oc_110 : sn_oc 110 = 9 := rfl
theorem sn_bc_111 : sn_bc 111 = cX9_canStillChange := rfl
theorem sn_oc_111 : sn_oc 111 = 9 := rfl
theorem sn_bc_112 : sn_bc 112 = cX1_hopefuls := rfl
theorem sn_oc_112 : sn_oc 112 = 1 := rfl
theorem sn_bc_113 : sn_bc 113 = cX1_stillToCome := rfl
theorem sn_oc_113 : sn_oc 113 = 1 := rfl
theorem sn_bc_114 : sn_bc 114 = cL_isEnded := rfl
theorem sn_oc_114 : sn_oc 114 = 10 := rfl
theorem sn_bc_115 : sn_bc 115 = cX9_end := rfl
theorem sn_oc_115 : sn_oc 115 = 9 := rfl
theorem sn_bc_116 : sn_bc 116 = cX9_findHost := rfl
theorem sn_oc_116 : sn_oc 116 = 9 := rfl
theorem sn_bc_117 : sn_bc 117 = cX9_next := rfl
theorem sn_oc_117 : sn_oc 117 = 9 := rfl
theorem sn_bc_118 : sn_bc 118 = cX7_clear := rfl
theorem sn_oc_118 : sn_oc 118 = 7 := rfl
theorem sn_bc_119 : sn_bc 119 = cX8_clear := rfl
theorem sn_oc_119 : sn_oc 119 = 8 := rfl
theorem sn_bc_120 : sn_bc 120 = cX0_clear := rfl
theorem sn_oc_120 : sn_oc 120 = 0 := rfl
theorem sn_bc_121 : sn_bc 121 = cX4_clear := rfl
theorem sn_oc_121 : sn_oc 121 = 4 := rfl
theorem sn_bc_122 : sn_bc 122 = cX1_clear := rfl
theorem sn_oc_122 : sn_oc 122 = 1 := rfl
theorem sn_bc_123 : sn_bc 123 = cX9_digest := rfl
theorem sn_oc_123 : sn_oc 123 = 9 := rfl
theorem sn_bc_124 : sn_bc 124 = cX9_digestOfLand := rfl
theorem sn_oc_124 : sn_oc 124 = 9 := rfl
theorem sn_bc_125 : sn_bc 125 = cX5_leaderWithout := rfl
theorem sn_oc_125 : sn_oc 125 = 5 := rfl
theorem sn_bc_126 : sn_bc 126 = cX4_needed := rfl
theorem sn_oc_126 : sn_oc 126 = 4 := rfl
theorem sn_bc_127 : sn_bc 127 = cX4_winsTie := rfl
theorem sn_oc_127 : sn_oc 127 = 4 := rfl
theorem sn_bc_128 : sn_bc 128 = cX9_without := rfl
theorem sn_oc_128 : sn_oc 128 = 9 := rfl
theorem sn_bc_129 : sn_bc 129 = cL_law := rfl
theorem sn_oc_129 : sn_oc 129 = 10 := rfl
theorem sn_pf_0_11 : sn_pf 0 11 = some (0, 1) := by decide +kernel
theorem sn_pf_0_16 : sn_pf 0 16 = some (0, 2) := by decide +kernel
theorem sn_pf_0_20 : sn_pf 0 20 = some (0, 3) := by decide +kernel
theorem sn_pf_0_24 : sn_pf 0 24 = some (0, 4) := by decide +kernel
theorem sn_pf_0_27 : sn_pf 0 27 = some (0, 0) := by decide +kernel
theorem sn_pf_1_11 : sn_pf 1 11 = some (1, 2) := by decide +kernel
theorem sn_pf_1_16 : sn_pf 1 16 = some (1, 3) := by decide +kernel
theorem sn_pf_1_20 : sn_pf 1 20 = some (1, 4) := by decide +kernel
theorem sn_pf_1_24 : sn_pf 1 24 = some (1, 5) := by decide +kernel
theorem sn_pf_1_27 : sn_pf 1 27 = some (1, 6) := by decide +kernel
theorem sn_pf_1_30 : sn_pf 1 30 = some (1, 7) := by decide +kernel
theorem sn_pf_1_34 : sn_pf 1 34 = some (1, 8) := by decide +kernel
theorem sn_pf_1_37 : sn_pf 1 37 = some (1, 0) := by decide +kernel
theorem sn_pf_1_41 : sn_pf 1 41 = some (1, 1) := by decide +kernel
theorem sn_pf_1_49 : sn_pf 1 49 = some (3, 0) := by decide +kernel
theorem sn_pf_2_11 : sn_pf 2 11 = some (2, 3) := by decide +kernel
theorem sn_pf_2_16 : sn_pf 2 16 = some (2, 4) := by decide +kernel
theorem sn_pf_2_19 : sn_pf 2 19 = some (2, 5) := by decide +kernel
theorem sn_pf_2_22 : sn_pf 2 22 = some (2, 6) := by decide +kernel
theorem sn_pf_2_26 : sn_pf 2 26 = some (2, 7) := by decide +kernel
theorem sn_pf_2_29 : sn_pf 2 29 = some (2, 8) := by decide +kernel
theorem sn_pf_2_33 : sn_pf 2 33 = some (2, 9) := by decide +kernel
theorem sn_pf_2_36 : sn_pf 2 36 = some (2, 10) := by decide +kernel
theorem sn_pf_2_39 : sn_pf 2 39 = some (2, 0) := by decide +kernel
theorem sn_pf_2_43 : sn_pf 2 43 = some (2, 1) := by decide +kernel
theorem sn_pf_2_47 : sn_pf 2 47 = some (2, 2) := by decide +kernel
theorem sn_pf_2_51 : sn_pf 2 51 = some (3, 0) := by decide +kernel
theorem sn_pf_2_88 : sn_pf 2 88 = some (0, 3) := by decide +kernel
theorem sn_pf_2_124 : sn_pf 2 124 = some (3, 1) := by decide +kernel
theorem sn_pf_3_9 : sn_pf 3 9 = some (3, 0) := by decide +kernel
theorem sn_pf_3_15 : sn_pf 3 15 = some (3, 1) := by decide +kernel
theorem sn_pf_3_19 : sn_pf 3 19 = some (3, 2) := by decide +kernel
theorem sn_pf_3_22 : sn_pf 3 22 = some (3, 3) := by decide +kernel
theorem sn_pf_3_25 : sn_pf 3 25 = some (3, 4) := by decide +kernel
theorem sn_pf_3_28 : sn_pf 3 28 = some (3, 5) := by decide +kernel
theorem sn_pf_4_11 : sn_pf 4 11 = some (4, 1) := by decide +kernel
theorem sn_pf_4_16 : sn_pf 4 16 = some (4, 2) := by decide +kernel
theorem sn_pf_4_20 : sn_pf 4 20 = some (4, 3) := by decide +kernel
theorem sn_pf_4_23 : sn_pf 4 23 = some (4, 4) := by decide +kernel
theorem sn_pf_4_26 : sn_pf 4 26 = some (4, 5) := by decide +kernel
theorem sn_pf_4_29 : sn_pf 4 29 = some (4, 6) := by decide +kernel
theorem sn_pf_4_32 : sn_pf 4 32 = some (4, 7) := by decide +kernel
theorem sn_pf_4_35 : sn_pf 4 35 = some (4, 8) := by decide +kernel
theorem sn_pf_4_38 : sn_pf 4 38 = some (4, 9) := by decide +kernel
theorem sn_pf_4_41 : sn_pf 4 41 = some (4, 10) := by decide +kernel
theorem sn_pf_4_44 : sn_pf 4 44 = some (4, 0) := by decide +kernel
theorem sn_pf_5_9 : sn_pf 5 9 = some (5, 4) := by decide +kernel
theorem sn_pf_5_15 : sn_pf 5 15 = some (5, 5) := by decide +kernel
theorem sn_pf_5_18 : sn_pf 5 18 = some (5, 6) := by decide +kernel
theorem sn_pf_5_21 : sn_pf 5 21 = some (5, 7) := by decide +kernel
theorem sn_pf_5_24 : sn_pf 5 24 = some (5, 8) := by decide +kernel
theorem sn_pf_5_28 : sn_pf 5 28 = some (5, 0) := by decide +kernel
theorem sn_pf_5_32 : sn_pf 5 32 = some (5, 1) := by decide +kernel
theorem sn_pf_5_36 : sn_pf 5 36 = some (5, 2) := by decide +kernel
theorem sn_pf_5_40 : sn_pf 5 40 = some (5, 3) := by decide +kernel
theorem sn_pf_5_62 : sn_pf 5 62 = some (2, 5) := by decide +kernel
theorem sn_pf_5_68 : sn_pf 5 68 = some (4, 5) := by decide +kernel
theorem sn_pf_6_7 : sn_pf 6 7 = some (6, 0) := by decide +kernel
theorem sn_pf_6_13 : sn_pf 6 13 = some (6, 1) := by decide +kernel
theorem sn_pf_6_16 : sn_pf 6 16 = some (6, 2) := by decide +kernel
theorem sn_pf_6_19 : sn_pf 6 19 = some (6, 3) := by decide +kernel
theorem sn_pf_6_22 : sn_pf 6 22 = some (6, 4) := by decide +kernel
theorem sn_pf_7_9 : sn_pf 7 9 = some (7, 0) := by decide +kernel
theorem sn_pf_7_15 : sn_pf 7 15 = some (7, 1) := by decide +kernel
theorem sn_pf_7_18 : sn_pf 7 18 = some (7, 2) := by decide +kernel
theorem sn_pf_7_22 : sn_pf 7 22 = some (7, 3) := by decide +kernel
theorem sn_pf_7_25 : sn_pf 7 25 = some (7, 4) := by decide +kernel
theorem sn_pf_7_29 : sn_pf 7 29 = some (7, 5) := by decide +kernel
theorem sn_pf_7_32 : sn_pf 7 32 = some (7, 6) := by decide +kernel
theorem sn_pf_8_9 : sn_pf 8 9 = some (8, 1) := by decide +kernel
theorem sn_pf_8_15 : sn_pf 8 15 = some (8, 2) := by decide +kernel
theorem sn_pf_8_18 : sn_pf 8 18 = some (8, 3) := by decide +kernel
theorem sn_pf_8_22 : sn_pf 8 22 = some (8, 4) := by decide +kernel
theorem sn_pf_8_25 : sn_pf 8 25 = some (8, 0) := by decide +kernel
theorem sn_pf_8_29 : sn_pf 8 29 = some (7, 6) := by decide +kernel
theorem sn_pf_8_50 : sn_pf 8 50 = some (7, 2) := by decide +kernel
theorem sn_pf_8_62 : sn_pf 8 62 = some (7, 5) := by decide +kernel
theorem sn_pf_9_32 : sn_pf 9 32 = some (9, 0) := by decide +kernel
theorem sn_pf_9_38 : sn_pf 9 38 = some (9, 1) := by decide +kernel
theorem sn_pf_9_42 : sn_pf 9 42 = some (9, 2) := by decide +kernel
theorem sn_pf_9_46 : sn_pf 9 46 = some (9, 3) := by decide +kernel
theorem sn_pf_9_50 : sn_pf 9 50 = some (9, 4) := by decide +kernel
theorem sn_pf_9_54 : sn_pf 9 54 = some (9, 5) := by decide +kernel
theorem sn_pf_9_58 : sn_pf 9 58 = some (9, 6) := by decide +kernel
theorem sn_pf_9_67 : sn_pf 9 67 = some (9, 7) := by decide +kernel
theorem sn_pf_9_76 : sn_pf 9 76 = some (9, 8) := by decide +kernel
theorem sn_pf_9_80 : sn_pf 9 80 = some (9, 9) := by decide +kernel
theorem sn_pf_9_84 : sn_pf 9 84 = some (9, 10) := by decide +kernel
theorem sn_pf_9_87 : sn_pf 9 87 = some (9, 11) := by decide +kernel
theorem sn_pf_9_90 : sn_pf 9 90 = some (9, 12) := by decide +kernel
theorem sn_pf_9_93 : sn_pf 9 93 = some (9, 13) := by decide +kernel
theorem sn_pf_9_96 : sn_pf 9 96 = some (9, 14) := by decide +kernel
theorem sn_pf_9_99 : sn_pf 9 99 = some (9, 15) := by decide +kernel
theorem sn_pf_9_118 : sn_pf 9 118 = some (3, 0) := by decide +kernel
theorem sn_pf_9_134 : sn_pf 9 134 = some (7, 0) := by decide +kernel
theorem sn_pf_9_137 : sn_pf 9 137 = some (6, 0) := by decide +kernel
theorem sn_pf_9_140 : sn_pf 9 140 = some (6, 1) := by decide +kernel
theorem sn_pf_9_143 : sn_pf 9 143 = some (6, 2) := by decide +kernel
theorem sn_pf_9_146 : sn_pf 9 146 = some (6, 3) := by decide +kernel
theorem sn_pf_9_149 : sn_pf 9 149 = some (6, 4) := by decide +kernel
theorem sn_pf_9_157 : sn_pf 9 157 = some (7, 2) := by decide +kernel
theorem sn_pf_9_169 : sn_pf 9 169 = some (3, 3) := by decide +kernel
theorem sn_pf_9_238 : sn_pf 9 238 = some (7, 3) := by decide +kernel
theorem sn_pf_9_260 : sn_pf 9 260 = some (1, 4) := by decide +kernel
theorem sn_pf_9_277 : sn_pf 9 277 = some (2, 5) := by decide +kernel
theorem sn_pf_9_291 : sn_pf 9 291 = some (1, 7) := by decide +kernel
theorem sn_pf_9_296 : sn_pf 9 296 = some (5, 5) := by decide +kernel
theorem sn_pf_9_313 : sn_pf 9 313 = some (3, 4) := by decide +kernel
theorem sn_pf_9_319 : sn_pf 9 319 = some (3, 5) := by decide +kernel
theorem sn_pf_9_341 : sn_pf 9 341 = some (4, 5) := by decide +kernel
theorem sn_pf_9_342 : sn_pf 9 342 = some (8, 3) := by decide +kernel
theorem sn_pf_9_343 : sn_pf 9 343 = some (8, 1) := by decide +kernel
theorem sn_pf_9_379 : sn_pf 9 379 = some (5, 8) := by decide +kernel
theorem sn_pf_9_380 : sn_pf 9 380 = some (5, 6) := by decide +kernel
theorem sn_pf_9_381 : sn_pf 9 381 = some (3, 1) := by decide +kernel
theorem sn_pf_9_384 : sn_pf 9 384 = some (3, 2) := by decide +kernel
theorem sn_pf_9_390 : sn_pf 9 390 = some (2, 7) := by decide +kernel
theorem sn_pf_9_393 : sn_pf 9 393 = some (2, 8) := by decide +kernel
theorem sn_pf_9_396 : sn_pf 9 396 = some (4, 6) := by decide +kernel
theorem sn_pf_9_399 : sn_pf 9 399 = some (4, 7) := by decide +kernel
theorem sn_pf_9_402 : sn_pf 9 402 = some (7, 4) := by decide +kernel
theorem sn_pf_9_405 : sn_pf 9 405 = some (7, 5) := by decide +kernel
theorem sn_pf_9_408 : sn_pf 9 408 = some (7, 6) := by decide +kernel
theorem sn_pf_9_414 : sn_pf 9 414 = some (5, 4) := by decide +kernel
theorem sn_pf_9_423 : sn_pf 9 423 = some (1, 3) := by decide +kernel
theorem sn_pf_9_426 : sn_pf 9 426 = some (7, 1) := by decide +kernel
theorem sn_pf_9_429 : sn_pf 9 429 = some (1, 8) := by decide +kernel
theorem sn_pn_9_7 : sn_pn 9 7 = some 3 := by decide +kernel
theorem sn_pn_9_10 : sn_pn 9 10 = some 7 := by decide +kernel
theorem sn_pn_9_13 : sn_pn 9 13 = some 8 := by decide +kernel
theorem sn_pn_9_18 : sn_pn 9 18 = some 0 := by decide +kernel
theorem sn_pn_9_21 : sn_pn 9 21 = some 2 := by decide +kernel
theorem sn_pn_9_26 : sn_pn 9 26 = some 4 := by decide +kernel
theorem sn_pn_9_29 : sn_pn 9 29 = some 6 := by decide +kernel
theorem sn_pn_9_62 : sn_pn 9 62 = some 5 := by decide +kernel
theorem sn_pn_9_71 : sn_pn 9 71 = some 1 := by decide +kernel
theorem sn_pn_10_9 : sn_pn 10 9 = some 9 := by decide +kernel
theorem sn_pv_0_35 : sn_pv 0 35 = some (33, 2) := by decide +kernel
theorem sn_pv_1_45 : sn_pv 1 45 = some (86, 1) := by decide +kernel
theorem sn_pv_1_58 : sn_pv 1 58 = some (104, 2) := by decide +kernel
theorem sn_pv_1_68 : sn_pv 1 68 = some (51, 1) := by decide +kernel
theorem sn_pv_1_73 : sn_pv 1 73 = some (79, 1) := by decide +kernel
theorem sn_pv_1_80 : sn_pv 1 80 = some (113, 1) := by decide +kernel
theorem sn_pv_2_57 : sn_pv 2 57 = some (24, 1) := by decide +kernel
theorem sn_pv_2_61 : sn_pv 2 61 = some (41, 0) := by decide +kernel
theorem sn_pv_2_64 : sn_pv 2 64 = some (42, 1) := by decide +kernel
theorem sn_pv_2_67 : sn_pv 2 67 = some (32, 1) := by decide +kernel
theorem sn_pv_2_70 : sn_pv 2 70 = some (44, 1) := by decide +kernel
theorem sn_pv_2_73 : sn_pv 2 73 = some (25, 1) := by decide +kernel
theorem sn_pv_2_79 : sn_pv 2 79 = some (27, 1) := by decide +kernel
theorem sn_pv_2_82 : sn_pv 2 82 = some (36, 1) := by decide +kernel
theorem sn_pv_2_85 : sn_pv 2 85 = some (39, 1) := by decide +kernel
theorem sn_pv_2_99 : sn_pv 2 99 = some (29, 2) := by decide +kernel
theorem sn_pv_2_103 : sn_pv 2 103 = some (30, 3) := by decide +kernel
theorem sn_pv_2_107 : sn_pv 2 107 = some (33, 2) := by decide +kernel
theorem sn_pv_2_117 : sn_pv 2 117 = some (37, 3) := by decide +kernel
theorem sn_pv_2_121 : sn_pv 2 121 = some (40, 2) := by decide +kernel
theorem sn_pv_2_127 : sn_pv 2 127 = some (43, 2) := by decide +kernel
theorem sn_pv_2_131 : sn_pv 2 131 = some (34, 2) := by decide +kernel
theorem sn_pv_4_60 : sn_pv 4 60 = some (46, 3) := by decide +kernel
theorem sn_pv_4_64 : sn_pv 4 64 = some (34, 2) := by decide +kernel
theorem sn_pv_4_70 : sn_pv 4 70 = some (47, 3) := by decide +kernel
theorem sn_pv_4_74 : sn_pv 4 74 = some (33, 2) := by decide +kernel
theorem sn_pv_4_86 : sn_pv 4 86 = some (127, 3) := by decide +kernel
theorem sn_pv_5_44 : sn_pv 5 44 = some (51, 1) := by decide +kernel
theorem sn_pv_5_50 : sn_pv 5 50 = some (52, 1) := by decide +kernel
theorem sn_pv_5_54 : sn_pv 5 54 = some (53, 2) := by decide +kernel
theorem sn_pv_5_71 : sn_pv 5 71 = some (54, 1) := by decide +kernel
theorem sn_pv_7_35 : sn_pv 7 35 = some (72, 0) := by decide +kernel
theorem sn_pv_7_39 : sn_pv 7 39 = some (51, 1) := by decide +kernel
theorem sn_pv_7_43 : sn_pv 7 43 = some (34, 2) := by decide +kernel
theorem sn_pv_8_38 : sn_pv 8 38 = some (65, 2) := by decide +kernel
theorem sn_pv_8_42 : sn_pv 8 42 = some (57, 1) := by decide +kernel
theorem sn_pv_8_46 : sn_pv 8 46 = some (56, 0) := by decide +kernel
theorem sn_pv_8_54 : sn_pv 8 54 = some (63, 2) := by decide +kernel
theorem sn_pv_8_58 : sn_pv 8 58 = some (64, 2) := by decide +kernel
theorem sn_pv_9_114 : sn_pv 9 114 = some (14, 1) := by decide +kernel
theorem sn_pv_9_126 : sn_pv 9 126 = some (15, 2) := by decide +kernel
theorem sn_pv_9_152 : sn_pv 9 152 = some (18, 1) := by decide +kernel
theorem sn_pv_9_163 : sn_pv 9 163 = some (19, 4) := by decide +kernel
theorem sn_pv_9_166 : sn_pv 9 166 = some (20, 1) := by decide +kernel
theorem sn_pv_9_181 : sn_pv 9 181 = some (61, 0) := by decide +kernel
theorem sn_pv_9_185 : sn_pv 9 185 = some (63, 2) := by decide +kernel
theorem sn_pv_9_191 : sn_pv 9 191 = some (67, 2) := by decide +kernel
theorem sn_pv_9_195 : sn_pv 9 195 = some (56, 0) := by decide +kernel
theorem sn_pv_9_206 : sn_pv 9 206 = some (71, 1) := by decide +kernel
theorem sn_pv_9_215 : sn_pv 9 215 = some (74, 3) := by decide +kernel
theorem sn_pv_9_219 : sn_pv 9 219 = some (40, 2) := by decide +kernel
theorem sn_pv_9_222 : sn_pv 9 222 = some (76, 1) := by decide +kernel
theorem sn_pv_9_227 : sn_pv 9 227 = some (34, 2) := by decide +kernel
theorem sn_pv_9_232 : sn_pv 9 232 = some (81, 5) := by decide +kernel
theorem sn_pv_9_241 : sn_pv 9 241 = some (72, 0) := by decide +kernel
theorem sn_pv_9_246 : sn_pv 9 246 = some (84, 1) := by decide +kernel
theorem sn_pv_9_249 : sn_pv 9 249 = some (85, 1) := by decide +kernel
theorem sn_pv_9_252 : sn_pv 9 252 = some (86, 1) := by decide +kernel
theorem sn_pv_9_255 : sn_pv 9 255 = some (22, 0) := by decide +kernel
theorem sn_pv_9_257 : sn_pv 9 257 = some (59, 0) := by decide +kernel
theorem sn_pv_9_271 : sn_pv 9 271 = some (100, 1) := by decide +kernel
theorem sn_pv_9_281 : sn_pv 9 281 = some (103, 2) := by decide +kernel
theorem sn_pv_9_285 : sn_pv 9 285 = some (105, 1) := by decide +kernel
theorem sn_pv_9_288 : sn_pv 9 288 = some (108, 0) := by decide +kernel
theorem sn_pv_9_299 : sn_pv 9 299 = some (109, 2) := by decide +kernel
theorem sn_pv_9_304 : sn_pv 9 304 = some (104, 2) := by decide +kernel
theorem sn_pv_9_310 : sn_pv 9 310 = some (93, 1) := by decide +kernel
theorem sn_pv_9_316 : sn_pv 9 316 = some (116, 0) := by decide +kernel
theorem sn_pv_9_324 : sn_pv 9 324 = some (118, 0) := by decide +kernel
theorem sn_pv_9_327 : sn_pv 9 327 = some (119, 0) := by decide +kernel
theorem sn_pv_9_328 : sn_pv 9 328 = some (120, 0) := by decide +kernel
theorem sn_pv_9_329 : sn_pv 9 329 = some (121, 0) := by decide +kernel
theorem sn_pv_9_330 : sn_pv 9 330 = some (122, 0) := by decide +kernel
theorem sn_pv_9_333 : sn_pv 9 333 = some (91, 2) := by decide +kernel
theorem sn_pv_9_338 : sn_pv 9 338 = some (77, 2) := by decide +kernel
theorem sn_pv_9_350 : sn_pv 9 350 = some (55, 1) := by decide +kernel
theorem sn_pv_9_353 : sn_pv 9 353 = some (95, 0) := by decide +kernel
theorem sn_pv_9_356 : sn_pv 9 356 = some (111, 0) := by decide +kernel
theorem sn_pv_9_359 : sn_pv 9 359 = some (99, 0) := by decide +kernel
theorem sn_pv_9_362 : sn_pv 9 362 = some (125, 1) := by decide +kernel
theorem sn_pv_9_365 : sn_pv 9 365 = some (126, 2) := by decide +kernel
theorem sn_pv_9_368 : sn_pv 9 368 = some (62, 0) := by decide +kernel
theorem sn_pv_9_375 : sn_pv 9 375 = some (124, 2) := by decide +kernel
theorem sn_pv_9_387 : sn_pv 9 387 = some (25, 1) := by decide +kernel
theorem sn_pv_9_411 : sn_pv 9 411 = some (54, 1) := by decide +kernel
theorem sn_pv_9_417 : sn_pv 9 417 = some (78, 1) := by decide +kernel
theorem sn_pv_9_420 : sn_pv 9 420 = some (79, 1) := by decide +kernel
theorem sn_pv_9_432 : sn_pv 9 432 = some (112, 0) := by decide +kernel
theorem sn_pv_9_435 : sn_pv 9 435 = some (101, 1) := by decide +kernel
theorem sn_pv_9_445 : sn_pv 9 445 = some (23, 1) := by decide +kernel
theorem sn_pv_9_449 : sn_pv 9 449 = some (45, 2) := by decide +kernel
theorem sn_pv_9_452 : sn_pv 9 452 = some (49, 3) := by decide +kernel
theorem sn_pv_9_456 : sn_pv 9 456 = some (50, 0) := by decide +kernel
theorem sn_pv_10_22 : sn_pv 10 22 = some (12, 2) := by decide +kernel
theorem sn_pv_10_25 : sn_pv 10 25 = some (16, 5) := by decide +kernel
theorem sn_pv_10_29 : sn_pv 10 29 = some (17, 4) := by decide +kernel
theorem sn_pv_10_33 : sn_pv 10 33 = some (21, 1) := by decide +kernel
theorem sn_pv_10_37 : sn_pv 10 37 = some (60, 0) := by decide +kernel
theorem sn_pv_10_41 : sn_pv 10 41 = some (66, 2) := by decide +kernel
theorem sn_pv_10_44 : sn_pv 10 44 = some (68, 0) := by decide +kernel
theorem sn_pv_10_47 : sn_pv 10 47 = some (69, 1) := by decide +kernel
theorem sn_pv_10_50 : sn_pv 10 50 = some (70, 3) := by decide +kernel
theorem sn_pv_10_54 : sn_pv 10 54 = some (75, 2) := by decide +kernel
theorem sn_pv_10_57 : sn_pv 10 57 = some (80, 4) := by decide +kernel
theorem sn_pv_10_60 : sn_pv 10 60 = some (83, 1) := by decide +kernel
theorem sn_pv_10_67 : sn_pv 10 67 = some (96, 0) := by decide +kernel
theorem sn_pv_10_78 : sn_pv 10 78 = some (123, 0) := by decide +kernel
theorem sn_pv_10_82 : sn_pv 10 82 = some (110, 0) := by decide +kernel
theorem sn_pv_10_86 : sn_pv 10 86 = some (98, 0) := by decide +kernel
theorem sn_pv_10_89 : sn_pv 10 89 = some (128, 1) := by decide +kernel
theorem sn_pv_10_96 : sn_pv 10 96 = some (89, 3) := by decide +kernel
theorem sn_pv_10_100 : sn_pv 10 100 = some (90, 2) := by decide +kernel
theorem sn_pv_10_103 : sn_pv 10 103 = some (92, 1) := by decide +kernel
theorem sn_pv_10_106 : sn_pv 10 106 = some (94, 0) := by decide +kernel
theorem sn_pv_10_112 : sn_pv 10 112 = some (102, 1) := by decide +kernel
theorem sn_pv_10_115 : sn_pv 10 115 = some (106, 1) := by decide +kernel
theorem sn_pv_10_118 : sn_pv 10 118 = some (107, 0) := by decide +kernel
theorem sn_pv_10_121 : sn_pv 10 121 = some (115, 0) := by decide +kernel
theorem sn_pv_10_124 : sn_pv 10 124 = some (117, 0) := by decide +kernel
theorem sn_ps_0_31 : sn_ps 0 31 = some (26, 2) := by decide +kernel
theorem sn_ps_0_41 : sn_ps 0 41 = some (73, 1) := by decide +kernel
theorem sn_ps_0_45 : sn_ps 0 45 = some (31, 1) := by decide +kernel
theorem sn_ps_2_91 : sn_ps 2 91 = some (26, 2) := by decide +kernel
theorem sn_ps_2_95 : sn_ps 2 95 = some (28, 1) := by decide +kernel
theorem sn_ps_2_113 : sn_ps 2 113 = some (35, 3) := by decide +kernel
theorem sn_ps_2_134 : sn_ps 2 134 = some (31, 1) := by decide +kernel
theorem sn_ps_4_48 : sn_ps 4 48 = some (48, 2) := by decide +kernel
theorem sn_ps_4_78 : sn_ps 4 78 = some (35, 3) := by decide +kernel
theorem sn_ps_4_82 : sn_ps 4 82 = some (31, 1) := by decide +kernel
theorem sn_ps_5_58 : sn_ps 5 58 = some (35, 3) := by decide +kernel
theorem sn_ps_5_77 : sn_ps 5 77 = some (13, 3) := by decide +kernel
theorem sn_ps_9_103 : sn_ps 9 103 = some (13, 3) := by decide +kernel
theorem sn_ps_9_210 : sn_ps 9 210 = some (73, 1) := by decide +kernel
theorem sn_ps_10_12 : sn_ps 10 12 = some (10, 2) := by decide +kernel
theorem sn_ps_10_18 : sn_ps 10 18 = some (11, 2) := by decide +kernel
theorem sn_ps_10_63 : sn_ps 10 63 = some (87, 3) := by decide +kernel
theorem sn_ps_10_70 : sn_ps 10 70 = some (97, 4) := by decide +kernel
theorem sn_ps_10_74 : sn_ps 10 74 = some (114, 3) := by decide +kernel
theorem sn_ps_10_92 : sn_ps 10 92 = some (88, 2) := by decide +kernel
theorem sn_pc_0_3 : sn_pc 0 3 = some (200, 0) := by decide +kernel
theorem sn_pc_1_3 : sn_pc 1 3 = some (200, 0) := by decide +kernel
theorem sn_pc_2_3 : sn_pc 2 3 = some (200, 0) := by decide +kernel
theorem sn_pc_3_3 : sn_pc 3 3 = some (200, 0) := by decide +kernel
theorem sn_pc_4_3 : sn_pc 4 3 = some (200, 0) := by decide +kernel
theorem sn_pc_5_3 : sn_pc 5 3 = some (200, 0) := by decide +kernel
theorem sn_pc_6_1 : sn_pc 6 1 = some (200, 0) := by decide +kernel
theorem sn_pc_7_3 : sn_pc 7 3 = some (200, 0) := by decide +kernel
theorem sn_pc_8_3 : sn_pc 8 3 = some (200, 0) := by decide +kernel
theorem sn_pc_9_1 : sn_pc 9 1 = some (200, 0) := by decide +kernel
theorem sn_pc_9_9 : sn_pc 9 9 = some (1, 0) := by decide +kernel
theorem sn_pc_9_12 : sn_pc 9 12 = some (2, 0) := by decide +kernel
theorem sn_pc_9_15 : sn_pc 9 15 = some (3, 1) := by decide +kernel
theorem sn_pc_9_20 : sn_pc 9 20 = some (4, 1) := by decide +kernel
theorem sn_pc_9_23 : sn_pc 9 23 = some (5, 3) := by decide +kernel
theorem sn_pc_9_28 : sn_pc 9 28 = some (6, 1) := by decide +kernel
theorem sn_pc_9_31 : sn_pc 9 31 = some (7, 0) := by decide +kernel
theorem sn_pc_9_64 : sn_pc 9 64 = some (8, 4) := by decide +kernel
theorem sn_pc_9_73 : sn_pc 9 73 = some (9, 2) := by decide +kernel
theorem sn_pc_10_11 : sn_pc 10 11 = some (0, 0) := by decide +kernel
theorem sn_px_0_31 : sn_px 0 31 = none := by decide +kernel
theorem sn_px_0_41 : sn_px 0 41 = none := by decide +kernel
theorem sn_px_0_45 : sn_px 0 45 = none := by decide +kernel
theorem sn_px_2_91 : sn_px 2 91 = none := by decide +kernel
theorem sn_px_2_95 : sn_px 2 95 = none := by decide +kernel
theorem sn_px_2_113 : sn_px 2 113 = none := by decide +kernel
theorem sn_px_2_134 : sn_px 2 134 = none := by decide +kernel
theorem sn_px_4_48 : sn_px 4 48 = none := by decide +kernel
theorem sn_px_4_78 : sn_px 4 78 = none := by decide +kernel
theorem sn_px_4_82 : sn_px 4 82 = none := by decide +kernel
theorem sn_px_5_58 : sn_px 5 58 = none := by decide +kernel
theorem sn_px_5_77 : sn_px 5 77 = none := by decide +kernel
theorem sn_px_9_103 : sn_px 9 103 = none := by decide +kernel
theorem sn_px_9_210 : sn_px 9 210 = none := by decide +kernel
theorem sn_px_10_12 : sn_px 10 12 = none := by decide +kernel
theorem sn_px_10_18 : sn_px 10 18 = none := by decide +kernel
theorem sn_px_10_63 : sn_px 10 63 = none := by decide +kernel
theorem sn_px_10_70 : sn_px 10 70 = none := by decide +kernel
theorem sn_px_10_74 : sn_px 10 74 = none := by decide +kernel
theorem sn_px_10_92 : sn_px 10 92 = none := by decide +kernel
theorem sn_px_0_48 : sn_px 0 48 = some 0 := by decide +kernel
theorem sn_px_1_62 : sn_px 1 62 = some 0 := by decide +kernel
theorem sn_px_1_76 : sn_px 1 76 = some 1 := by decide +kernel
theorem sn_px_4_52 : sn_px 4 52 = some 2 := by decide +kernel
theorem sn_px_4_57 : sn_px 4 57 = some 1 := by decide +kernel
theorem sn_px_8_65 : sn_px 8 65 = some 1 := by decide +kernel
theorem sn_pi_10_8 : sn_pi 10 8 = some 790386105 := by decide +kernel
theorem sn_pi_10_7 : sn_pi 10 7 = some 2147483647 := by decide +kernel
theorem sn_pl_9_371 : sn_pl 9 371 = some 58219 := by decide +kernel
theorem sn_pl_9_373 : sn_pl 9 373 = some 31 := by decide +kernel
section SNST
variable {M pc : Nat} {cc : ByteArray} {st t : List sn_V} {h : sn_H} {Q : Option sn_V → sn_H → Prop} {x n : Int} {q : Nat} {a0 a1 a2 a3 a4 a5 a6 a7 a8 a9 a10 a11 a12 a13 a14 a15 a16 a17 a18 a19 : sn_V}
theorem sn_q_ist0 (hb : sn_bc M = cc) (hd : decode cc pc = .ok (.istore 0, 2)) (hM : sn_hl M = false) (k : sn_Wp M (pc + 2) (sn_i x :: t) st h Q) : sn_Wp M pc (a0 :: t) (sn_i x :: st) h Q := sn_q_istore hb hd hM (by show 0 < _; simp only [List.length_cons]; omega) rfl k
theorem sn_q_istn0 (hb : sn_bc M = cc) (hd : decode cc pc = .ok (.istore_n 0, 1)) (hM : sn_hl M = false) (k : sn_Wp M (pc + 1) (sn_i x :: t) st h Q) : sn_Wp M pc (a0 :: t) (sn_i x :: st) h Q := sn_q_istoren hb hd hM (by show 0 < _; simp only [List.length_cons]; omega) rfl k
theorem sn_q_ast0 (hb : sn_bc M = cc) (hd : decode cc pc = .ok (.astore 0, 2)) (hM : sn_hl M = false) (k : sn_Wp M (pc + 2) (sn_r q :: t) st h Q) : sn_Wp M pc (a0 :: t) (sn_r q :: st) h Q := sn_q_astore hb hd hM (by show 0 < _; simp only [List.length_cons]; omega) rfl k
theorem sn_q_astn0 (hb : sn_bc M = cc) (hd : decode cc pc = .ok (.astore_n 0, 1)) (hM : sn_hl M = false) (k : sn_Wp M (pc + 1) (sn_r q :: t) st h Q) : sn_Wp M pc (a0 :: t) (sn_r q :: st) h Q := sn_q_astoren hb hd hM (by show 0 < _; simp only [List.length_cons]; omega) rfl k
theorem sn_q_inc0 (hb : sn_bc M = cc) (hd : decode cc pc = .ok (.iinc 0 n, 3)) (hM : sn_hl M = false) (h1 : -2147483648 ≤ x + n) (h2 : x + n ≤ 2147483647) (k : sn_Wp M (pc + 3) (sn_i (x + n) :: t) st h Q) : sn_Wp M pc (sn_i x :: t) st h Q := sn_q_iinc hb hd hM (by show 0 < _; simp only [List.length_cons]; omega) rfl h1 h2 rfl k
theorem sn_q_ist1 (hb : sn_bc M = cc) (hd : decode cc pc = .ok (.istore 1, 2)) (hM : sn_hl M = false) (k : sn_Wp M (pc + 2) (a0 :: sn_i x :: t) st h Q) : sn_Wp M pc (a0 :: a1 :: t) (sn_i x :: st) h Q := sn_q_istore hb hd hM (by show 1 < _; simp only [List.length_cons]; omega) rfl k
theorem sn_q_istn1 (hb : sn_bc M = cc) (hd : decode cc pc = .ok (.istore_n 1, 1)) (hM : sn_hl M = false) (k : sn_Wp M (pc + 1) (a0 :: sn_i x :: t) st h Q) : sn_Wp M pc (a0 :: a1 :: t) (sn_i x :: st) h Q := sn_q_istoren hb hd hM (by show 1 < _; simp only [List.length_cons]; omega) rfl k
theorem sn_q_ast1 (hb : sn_bc M = cc) (hd : decode cc pc = .ok (.astore 1, 2)) (hM : sn_hl M = false) (k : sn_Wp M (pc + 2) (a0 :: sn_r q :: t) st h Q) : sn_Wp M pc (a0 :: a1 :: t) (sn_r q :: st) h Q := sn_q_astore hb hd hM (by show 1 < _; simp only [List.length_cons]; omega) rfl k
theorem sn_q_astn1 (hb : sn_bc M = cc) (hd : decode cc pc = .ok (.astore_n 1, 1)) (hM : sn_hl M = false) (k : sn_Wp M (pc + 1) (a0 :: sn_r q :: t) st h Q) : sn_Wp M pc (a0 :: a1 :: t) (sn_r q :: st) h Q := sn_q_astoren hb hd hM (by show 1 < _; simp only [List.length_cons]; omega) rfl k
theorem sn_q_inc1 (hb : sn_bc M = cc) (hd : decode cc pc = .ok (.iinc 1 n, 3)) (hM : sn_hl M = false) (h1 : -2147483648 ≤ x + n) (h2 : x + n ≤ 2147483647) (k : sn_Wp M (pc + 3) (a0 :: sn_i (x + n) :: t) st h Q) : sn_Wp M pc (a0 :: sn_i x :: t) st h Q := sn_q_iinc hb hd hM (by show 1 < _; simp only [List.length_cons]; omega) rfl h1 h2 rfl k
theorem sn_q_ist2 (hb : sn_bc M = cc) (hd : decode cc pc = .ok (.istore 2, 2)) (hM : sn_hl M = false) (k : sn_Wp M (pc + 2) (a0 :: a1 :: sn_i x :: t) st h Q) : sn_Wp M pc (a0 :: a1 :: a2 :: t) (sn_i x :: st) h Q := sn_q_istore hb hd hM (by show 2 < _; simp only [List.length_cons]; omega) rfl k
theorem sn_q_istn2 (hb : sn_bc M = cc) (hd : decode cc pc = .ok (.istore_n 2, 1)) (hM : sn_hl M = false) (k : sn_Wp M (pc + 1) (a0 :: a1 :: sn_i x :: t) st h Q) : sn_Wp M pc (a0 :: a1 :: a2 :: t) (sn_i x :: st) h Q := sn_q_istoren hb hd hM (by show 2 < _; simp only [List.length_cons]; omega) rfl k
theorem sn_q_ast2 (hb : sn_bc M = cc) (hd : decode cc pc = .ok (.astore 2, 2)) (hM : sn_hl M = false) (k : sn_Wp M (pc + 2) (a0 :: a1 :: sn_r q :: t) st h Q) : sn_Wp M pc (a0 :: a1 :: a2 :: t) (sn_r q :: st) h Q := sn_q_astore hb hd hM (by show 2 < _; simp only [List.length_cons]; omega) rfl k
theorem sn_q_astn2 (hb : sn_bc M = cc) (hd : decode cc pc = .ok (.astore_n 2, 1)) (hM : sn_hl M = false) (k : sn_Wp M (pc + 1) (a0 :: a1 :: sn_r q :: t) st h Q) : sn_Wp M pc (a0 :: a1 :: a2 :: t) (sn_r q :: st) h Q := sn_q_astoren hb hd hM (by show 2 < _; simp only [List.length_cons]; omega) rfl k
theorem sn_q_inc2 (hb : sn_bc M = cc) (hd : decode cc pc = .ok (.iinc 2 n, 3)) (hM : sn_hl M = false) (h1 : -2147483648 ≤ x + n) (h2 : x + n ≤ 2147483647) (k : sn_Wp M (pc + 3) (a0 :: a1 :: sn_i (x + n) :: t) st h Q) : sn_Wp M pc (a0 :: a1 :: sn_i x :: t) st h Q := sn_q_iinc hb hd hM (by show 2 < _; simp only [List.length_cons]; omega) rfl h1 h2 rfl k
theorem sn_q_ist3 (hb : sn_bc M = cc) (hd : decode cc pc = .ok (.istore 3, 2)) (hM : sn_hl M = false) (k : sn_Wp M (pc + 2) (a0 :: a1 :: a2 :: sn_i x :: t) st h Q) : sn_Wp M pc (a0 :: a1 :: a2 :: a3 :: t) (sn_i x :: st) h Q := sn_q_istore hb hd hM (by show 3 < _; simp only [List.length_cons]; omega) rfl k
theorem sn_q_istn3 (hb : sn_bc M = cc) (hd : decode cc pc = .ok (.istore_n 3, 1)) (hM : sn_hl M = false) (k : sn_Wp M (pc + 1) (a0 :: a1 :: a2 :: sn_i x :: t) st h Q) : sn_Wp M pc (a0 :: a1 :: a2 :: a3 :: t) (sn_i x :: st) h Q := sn_q_istoren hb hd hM (by show 3 < _; simp only [List.length_cons]; omega) rfl k
theorem sn_q_ast3 (hb : sn_bc M = cc) (hd : decode cc pc = .ok (.astore 3, 2)) (hM : sn_hl M = false) (k : sn_Wp M (pc + 2) (a0 :: a1 :: a2 :: sn_r q :: t) st h Q) : sn_Wp M pc (a0 :: a1 :: a2 :: a3 :: t) (sn_r q :: st) h Q := sn_q_astore hb hd hM (by show 3 < _; simp only [List.length_cons]; omega) rfl k
theorem sn_q_astn3 (hb : sn_bc M = cc) (hd : decode cc pc = .ok (.astore_n 3, 1)) (hM : sn_hl M = false) (k : sn_Wp M (pc + 1) (a0 :: a1 :: a2 :: sn_r q :: t) st h Q) : sn_Wp M pc (a0 :: a1 :: a2 :: a3 :: t) (sn_r q :: st) h Q := sn_q_astoren hb hd hM (by show 3 < _; simp only [List.length_cons]; omega) rfl k
theorem sn_q_inc3 (hb : sn_bc M = cc) (hd : decode cc pc = .ok (.iinc 3 n, 3)) (hM : sn_hl M = false) (h1 : -2147483648 ≤ x + n) (h2 : x + n ≤ 2147483647) (k : sn_Wp M (pc + 3) (a0 :: a1 :: a2 :: sn_i (x + n) :: t) st h Q) : sn_Wp M pc (a0 :: a1 :: a2 :: sn_i x :: t) st h Q := sn_q_iinc hb hd hM (by show 3 < _; simp only [List.length_cons]; omega) rfl h1 h2 rfl k
theorem sn_q_ist4 (hb : sn_bc M = cc) (hd : decode cc pc = .ok (.istore 4, 2)) (hM : sn_hl M = false) (k : sn_Wp M (pc + 2) (a0 :: a1 :: a2 :: a3 :: sn_i x :: t) st h Q) : sn_Wp M pc (a0 :: a1 :: a2 :: a3 :: a4 :: t) (sn_i x :: st) h Q := sn_q_istore hb hd hM (by show 4 < _; simp only [List.length_cons]; omega) rfl k
theorem sn_q_ast4 (hb : sn_bc M = cc) (hd : decode cc pc = .ok (.astore 4, 2)) (hM : sn_hl M = false) (k : sn_Wp M (pc + 2) (a0 :: a1 :: a2 :: a3 :: sn_r q :: t) st h Q) : sn_Wp M pc (a0 :: a1 :: a2 :: a3 :: a4 :: t) (sn_r q :: st) h Q := sn_q_astore hb hd hM (by show 4 < _; simp only [List.length_cons]; omega) rfl k
theorem sn_q_inc4 (hb : sn_bc M = cc) (hd : decode cc pc = .ok (.iinc 4 n, 3)) (hM : sn_hl M = false) (h1 : -2147483648 ≤ x + n) (h2 : x + n ≤ 2147483647) (k : sn_Wp M (pc + 3) (a0 :: a1 :: a2 :: a3 :: sn_i (x + n) :: t) st h Q) : sn_Wp M pc (a0 :: a1 :: a2 :: a3 :: sn_i x :: t) st h Q := sn_q_iinc hb hd hM (by show 4 < _; simp only [List.length_cons]; omega) rfl h1 h2 rfl k
theorem sn_q_ist5 (hb : sn_bc M = cc) (hd : decode cc pc = .ok (.istore 5, 2)) (hM : sn_hl M = false) (k : sn_Wp M (pc + 2) (a0 :: a1 :: a2 :: a3 :: a4 :: sn_i x :: t) st h Q) : sn_Wp M pc (a0 :: a1 :: a2 :: a3 :: a4 :: a5 :: t) (sn_i x :: st) h Q := sn_q_istore hb hd hM (by show 5 < _; simp only [List.length_cons]; omega) rfl k
theorem sn_q_ast5 (hb : sn_bc M = cc) (hd : decode cc pc = .ok (.astore 5, 2)) (hM : sn_hl M = false) (k : sn_Wp M (pc + 2) (a0 :: a1 :: a2 :: a3 :: a4 :: sn_r q :: t) st h Q) : sn_Wp M pc (a0 :: a1 :: a2 :: a3 :: a4 :: a5 :: t) (sn_r q :: st) h Q := sn_q_astore hb hd hM (by show 5 < _; simp only [List.length_cons]; omega) rfl k
theorem sn_q_inc5 (hb : sn_bc M = cc) (hd : decode cc pc = .ok (.iinc 5 n, 3)) (hM : sn_hl M = false) (h1 : -2147483648 ≤ x + n) (h2 : x + n ≤ 2147483647) (k : sn_Wp M (pc + 3) (a0 :: a1 :: a2 :: a3 :: a4 :: sn_i (x + n) :: t) st h Q) : sn_Wp M pc (a0 :: a1 :: a2 :: a3 :: a4 :: sn_i x :: t) st h Q := sn_q_iinc hb hd hM (by show 5 < _; simp only [List.length_cons]; omega) rfl h1 h2 rfl k
theorem sn_q_ist6 (hb : sn_bc M = cc) (hd : decode cc pc = .ok (.istore 6, 2)) (hM : sn_hl M = false) (k : sn_Wp M (pc + 2) (a0 :: a1 :: a2 :: a3 :: a4 :: a5 :: sn_i x :: t) st h Q) : sn_Wp M pc (a0 :: a1 :: a2 :: a3 :: a4 :: a5 :: a6 :: t) (sn_i x :: st) h Q := sn_q_istore hb hd hM (by show 6 < _; simp only [List.length_cons]; omega) rfl k
theorem sn_q_ast6 (hb : sn_bc M = cc) (hd : decode cc pc = .ok (.astore 6, 2)) (hM : sn_hl M = false) (k : sn_Wp M (pc + 2) (a0 :: a1 :: a2 :: a3 :: a4 :: a5 :: sn_r q :: t) st h Q) : sn_Wp M pc (a0 :: a1 :: a2 :: a3 :: a4 :: a5 :: a6 :: t) (sn_r q :: st) h Q := sn_q_astore hb hd hM (by show 6 < _; simp only [List.length_cons]; omega) rfl k
theorem sn_q_inc6 (hb : sn_bc M = cc) (hd : decode cc pc = .ok (.iinc 6 n, 3)) (hM : sn_hl M = false) (h1 : -2147483648 ≤ x + n) (h2 : x + n ≤ 2147483647) (k : sn_Wp M (pc + 3) (a0 :: a1 :: a2 :: a3 :: a4 :: a5 :: sn_i (x + n) :: t) st h Q) : sn_Wp M pc (a0 :: a1 :: a2 :: a3 :: a4 :: a5 :: sn_i x :: t) st h Q := sn_q_iinc hb hd hM (by show 6 < _; simp only [List.length_cons]; omega) rfl h1 h2 rfl k
theorem sn_q_ist7 (hb : sn_bc M = cc) (hd : decode cc pc = .ok (.istore 7, 2)) (hM : sn_hl M = false) (k : sn_Wp M (pc + 2) (a0 :: a1 :: a2 :: a3 :: a4 :: a5 :: a6 :: sn_i x :: t) st h Q) : sn_Wp M pc (a0 :: a1 :: a2 :: a3 :: a4 :: a5 :: a6 :: a7 :: t) (sn_i x :: st) h Q := sn_q_istore hb hd hM (by show 7 < _; simp only [List.length_cons]; omega) rfl k
theorem sn_q_ast7 (hb : sn_bc M = cc) (hd : decode cc pc = .ok (.astore 7, 2)) (hM : sn_hl M = false) (k : sn_Wp M (pc + 2) (a0 :: a1 :: a2 :: a3 :: a4 :: a5 :: a6 :: sn_r q :: t) st h Q) : sn_Wp M pc (a0 :: a1 :: a2 :: a3 :: a4 :: a5 :: a6 :: a7 :: t) (sn_r q :: st) h Q := sn_q_astore hb hd hM (by show 7 < _; simp only [List.length_cons]; omega) rfl k
theorem sn_q_inc7 (hb : sn_bc M = cc) (hd : decode cc pc = .ok (.iinc 7 n, 3)) (hM : sn_hl M = false) (h1 : -2147483648 ≤ x + n) (h2 : x + n ≤ 2147483647) (k : sn_Wp M (pc + 3) (a0 :: a1 :: a2 :: a3 :: a4 :: a5 :: a6 :: sn_i (x + n) :: t) st h Q) : sn_Wp M pc (a0 :: a1 :: a2 :: a3 :: a4 :: a5 :: a6 :: sn_i x :: t) st h Q := sn_q_iinc hb hd hM (by show 7 < _; simp only [List.length_cons]; omega) rfl h1 h2 rfl k
theorem sn_q_ist8 (hb : sn_bc M = cc) (hd : decode cc pc = .ok (.istore 8, 2)) (hM : sn_hl M = false) (k : sn_Wp M (pc + 2) (a0 :: a1 :: a2 :: a3 :: a4 :: a5 :: a6 :: a7 :: sn_i x :: t) st h Q) : sn_Wp M pc (a0 :: a1 :: a2 :: a3 :: a4 :: a5 :: a6 :: a7 :: a8 :: t) (sn_i x :: st) h Q := sn_q_istore hb hd hM (by show 8 < _; simp only [List.length_cons]; omega) rfl k
theorem sn_q_ast8 (hb : sn_bc M = cc) (hd : decode cc pc = .ok (.astore 8, 2)) (hM : sn_hl M = false) (k : sn_Wp M (pc + 2) (a0 :: a1 :: a2 :: a3 :: a4 :: a5 :: a6 :: a7 :: sn_r q :: t) st h Q) : sn_Wp M pc (a0 :: a1 :: a2 :: a3 :: a4 :: a5 :: a6 :: a7 :: a8 :: t) (sn_r q :: st) h Q := sn_q_astore hb hd hM (by show 8 < _; simp only [List.length_cons]; omega) rfl k
theorem sn_q_inc8 (hb : sn_bc M = cc) (hd : decode cc pc = .ok (.iinc 8 n, 3)) (hM : sn_hl M = false) (h1 : -2147483648 ≤ x + n) (h2 : x + n ≤ 2147483647) (k : sn_Wp M (pc + 3) (a0 :: a1 :: a2 :: a3 :: a4 :: a5 :: a6 :: a7 :: sn_i (x + n) :: t) st h Q) : sn_Wp M pc (a0 :: a1 :: a2 :: a3 :: a4 :: a5 :: a6 :: a7 :: sn_i x :: t) st h Q := sn_q_iinc hb hd hM (by show 8 < _; simp only [List.length_cons]; omega) rfl h1 h2 rfl k
theorem sn_q_ist9 (hb : sn_bc M = cc) (hd : decode cc pc = .ok (.istore 9, 2)) (hM : sn_hl M = false) (k : sn_Wp M (pc + 2) (a0 :: a1 :: a2 :: a3 :: a4 :: a5 :: a6 :: a7 :: a8 :: sn_i x :: t) st h Q) : sn_Wp M pc (a0 :: a1 :: a2 :: a3 :: a4 :: a5 :: a6 :: a7 :: a8 :: a9 :: t) (sn_i x :: st) h Q := sn_q_istore hb hd hM (by show 9 < _; simp only [List.length_cons]; omega) rfl k
theorem sn_q_ast9 (hb : sn_bc M = cc) (hd : decode cc pc = .ok (.astore 9, 2)) (hM : sn_hl M = false) (k : sn_Wp M (pc + 2) (a0 :: a1 :: a2 :: a3 :: a4 :: a5 :: a6 :: a7 :: a8 :: sn_r q :: t) st h Q) : sn_Wp M pc (a0 :: a1 :: a2 :: a3 :: a4 :: a5 :: a6 :: a7 :: a8 :: a9 :: t) (sn_r q :: st) h Q := sn_q_astore hb hd hM (by show 9 < _; simp only [List.length_cons]; omega) rfl k
theorem sn_q_inc9 (hb : sn_bc M = cc) (hd : decode cc pc = .ok (.iinc 9 n, 3)) (hM : sn_hl M = false) (h1 : -2147483648 ≤ x + n) (h2 : x + n ≤ 2147483647) (k : sn_Wp M (pc + 3) (a0 :: a1 :: a2 :: a3 :: a4 :: a5 :: a6 :: a7 :: a8 :: sn_i (x + n) :: t) st h Q) : sn_Wp M pc (a0 :: a1 :: a2 :: a3 :: a4 :: a5 :: a6 :: a7 :: a8 :: sn_i x :: t) st h Q := sn_q_iinc hb hd hM (by show 9 < _; simp only [List.length_cons]; omega) rfl h1 h2 rfl k
theorem sn_q_ist10 (hb : sn_bc M = cc) (hd : decode cc pc = .ok (.istore 10, 2)) (hM : sn_hl M = false) (k : sn_Wp M (pc + 2) (a0 :: a1 :: a2 :: a3 :: a4 :: a5 :: a6 :: a7 :: a8 :: a9 :: sn_i x :: t) st h Q) : sn_Wp M pc (a0 :: a1 :: a2 :: a3 :: a4 :: a5 :: a6 :: a7 :: a8 :: a9 :: a10 :: t) (sn_i x :: st) h Q := sn_q_istore hb hd hM (by show 10 < _; simp only [List.length_cons]; omega) rfl k
theorem sn_q_ast10 (hb : sn_bc M = cc) (hd : decode cc pc = .ok (.astore 10, 2)) (hM : sn_hl M = false) (k : sn_Wp M (pc + 2) (a0 :: a1 :: a2 :: a3 :: a4 :: a5 :: a6 :: a7 :: a8 :: a9 :: sn_r q :: t) st h Q) : sn_Wp M pc (a0 :: a1 :: a2 :: a3 :: a4 :: a5 :: a6 :: a7 :: a8 :: a9 :: a10 :: t) (sn_r q :: st) h Q := sn_q_astore hb hd hM (by show 10 < _; simp only [List.length_cons]; omega) rfl k
theorem sn_q_inc10 (hb : sn_bc M = cc) (hd : decode cc pc = .ok (.iinc 10 n, 3)) (hM : sn_hl M = false) (h1 : -2147483648 ≤ x + n) (h2 : x + n ≤ 2147483647) (k : sn_Wp M (pc + 3) (a0 :: a1 :: a2 :: a3 :: a4 :: a5 :: a6 :: a7 :: a8 :: a9 :: sn_i (x + n) :: t) st h Q) : sn_Wp M pc (a0 :: a1 :: a2 :: a3 :: a4 :: a5 :: a6 :: a7 :: a8 :: a9 :: sn_i x :: t) st h Q := sn_q_iinc hb hd hM (by show 10 < _; simp only [List.length_cons]; omega) rfl h1 h2 rfl k
theorem sn_q_ist11 (hb : sn_bc M = cc) (hd : decode cc pc = .ok (.istore 11, 2)) (hM : sn_hl M = false) (k : sn_Wp M (pc + 2) (a0 :: a1 :: a2 :: a3 :: a4 :: a5 :: a6 :: a7 :: a8 :: a9 :: a10 :: sn_i x :: t) st h Q) : sn_Wp M pc (a0 :: a1 :: a2 :: a3 :: a4 :: a5 :: a6 :: a7 :: a8 :: a9 :: a10 :: a11 :: t) (sn_i x :: st) h Q := sn_q_istore hb hd hM (by show 11 < _; simp only [List.length_cons]; omega) rfl k
theorem sn_q_ast11 (hb : sn_bc M = cc) (hd : decode cc pc = .ok (.astore 11, 2)) (hM : sn_hl M = false) (k : sn_Wp M (pc + 2) (a0 :: a1 :: a2 :: a3 :: a4 :: a5 :: a6 :: a7 :: a8 :: a9 :: a10 :: sn_r q :: t) st h Q) : sn_Wp M pc (a0 :: a1 :: a2 :: a3 :: a4 :: a5 :: a6 :: a7 :: a8 :: a9 :: a10 :: a11 :: t) (sn_r q :: st) h Q := sn_q_astore hb hd hM (by show 11 < _; simp only [List.length_cons]; omega) rfl k
theorem sn_q_inc11 (hb : sn_bc M = cc) (hd : decode cc pc = .ok (.iinc 11 n, 3)) (hM : sn_hl M = false) (h1 : -2147483648 ≤ x + n) (h2 : x + n ≤ 2147483647) (k : sn_Wp M (pc + 3) (a0 :: a1 :: a2 :: a3 :: a4 :: a5 :: a6 :: a7 :: a8 :: a9 :: a10 :: sn_i (x + n) :: t) st h Q) : sn_Wp M pc (a0 :: a1 :: a2 :: a3 :: a4 :: a5 :: a6 :: a7 :: a8 :: a9 :: a10 :: sn_i x :: t) st h Q := sn_q_iinc hb hd hM (by show 11 < _; simp only [List.length_cons]; omega) rfl h1 h2 rfl k
theorem sn_q_ist12 (hb : sn_bc M = cc) (hd : decode cc pc = .ok (.istore 12, 2)) (hM : sn_hl M = false) (k : sn_Wp M (pc + 2) (a0 :: a1 :: a2 :: a3 :: a4 :: a5 :: a6 :: a7 :: a8 :: a9 :: a10 :: a11 :: sn_i x :: t) st h Q) : sn_Wp M pc (a0 :: a1 :: a2 :: a3 :: a4 :: a5 :: a6 :: a7 :: a8 :: a9 :: a10 :: a11 :: a12 :: t) (sn_i x :: st) h Q := sn_q_istore hb hd hM (by show 12 < _; simp only [List.length_cons]; omega) rfl k
theorem sn_q_ast12 (hb : sn_bc M = cc) (hd : decode cc pc = .ok (.astore 12, 2)) (hM : sn_hl M = false) (k : sn_Wp M (pc + 2) (a0 :: a1 :: a2 :: a3 :: a4 :: a5 :: a6 :: a7 :: a8 :: a9 :: a10 :: a11 :: sn_r q :: t) st h Q) : sn_Wp M pc (a0 :: a1 :: a2 :: a3 :: a4 :: a5 :: a6 :: a7 :: a8 :: a9 :: a10 :: a11 :: a12 :: t) (sn_r q :: st) h Q := sn_q_astore hb hd hM (by show 12 < _; simp only [List.length_cons]; omega) rfl k
theorem sn_q_inc12 (hb : sn_bc M = cc) (hd : decode cc pc = .ok (.iinc 12 n, 3)) (hM : sn_hl M = false) (h1 : -2147483648 ≤ x + n) (h2 : x + n ≤ 2147483647) (k : sn_Wp M (pc + 3) (a0 :: a1 :: a2 :: a3 :: a4 :: a5 :: a6 :: a7 :: a8 :: a9 :: a10 :: a11 :: sn_i (x + n) :: t) st h Q) : sn_Wp M pc (a0 :: a1 :: a2 :: a3 :: a4 :: a5 :: a6 :: a7 :: a8 :: a9 :: a10 :: a11 :: sn_i x :: t) st h Q := sn_q_iinc hb hd hM (by show 12 < _; simp only [List.length_cons]; omega) rfl h1 h2 rfl k
theorem sn_q_ist13 (hb : sn_bc M = cc) (hd : decode cc pc = .ok (.istore 13, 2)) (hM : sn_hl M = false) (k : sn_Wp M (pc + 2) (a0 :: a1 :: a2 :: a3 :: a4 :: a5 :: a6 :: a7 :: a8 :: a9 :: a10 :: a11 :: a12 :: sn_i x :: t) st h Q) : sn_Wp M pc (a0 :: a1 :: a2 :: a3 :: a4 :: a5 :: a6 :: a7 :: a8 :: a9 :: a10 :: a11 :: a12 :: a13 :: t) (sn_i x :: st) h Q := sn_q_istore hb hd hM (by show 13 < _; simp only [List.length_cons]; omega) rfl k
theorem sn_q_ast13 (hb : sn_bc M = cc) (hd : decode cc pc = .ok (.astore 13, 2)) (hM : sn_hl M = false) (k : sn_Wp M (pc + 2) (a0 :: a1 :: a2 :: a3 :: a4 :: a5 :: a6 :: a7 :: a8 :: a9 :: a10 :: a11 :: a12 :: sn_r q :: t) st h Q) : sn_Wp M pc (a0 :: a1 :: a2 :: a3 :: a4 :: a5 :: a6 :: a7 :: a8 :: a9 :: a10 :: a11 :: a12 :: a13 :: t) (sn_r q :: st) h Q := sn_q_astore hb hd hM (by show 13 < _; simp only [List.length_cons]; omega) rfl k
theorem sn_q_inc13 (hb : sn_bc M = cc) (hd : decode cc pc = .ok (.iinc 13 n, 3)) (hM : sn_hl M = false) (h1 : -2147483648 ≤ x + n) (h2 : x + n ≤ 2147483647) (k : sn_Wp M (pc + 3) (a0 :: a1 :: a2 :: a3 :: a4 :: a5 :: a6 :: a7 :: a8 :: a9 :: a10 :: a11 :: a12 :: sn_i (x + n) :: t) st h Q) : sn_Wp M pc (a0 :: a1 :: a2 :: a3 :: a4 :: a5 :: a6 :: a7 :: a8 :: a9 :: a10 :: a11 :: a12 :: sn_i x :: t) st h Q := sn_q_iinc hb hd hM (by show 13 < _; simp only [List.length_cons]; omega) rfl h1 h2 rfl k
theorem sn_q_ist14 (hb : sn_bc M = cc) (hd : decode cc pc = .ok (.istore 14, 2)) (hM : sn_hl M = false) (k : sn_Wp M (pc + 2) (a0 :: a1 :: a2 :: a3 :: a4 :: a5 :: a6 :: a7 :: a8 :: a9 :: a10 :: a11 :: a12 :: a13 :: sn_i x :: t) st h Q) : sn_Wp M pc (a0 :: a1 :: a2 :: a3 :: a4 :: a5 :: a6 :: a7 :: a8 :: a9 :: a10 :: a11 :: a12 :: a13 :: a14 :: t) (sn_i x :: st) h Q := sn_q_istore hb hd hM (by show 14 < _; simp only [List.length_cons]; omega) rfl k
theorem sn_q_ast14 (hb : sn_bc M = cc) (hd : decode cc pc = .ok (.astore 14, 2)) (hM : sn_hl M = false) (k : sn_Wp M (pc + 2) (a0 :: a1 :: a2 :: a3 :: a4 :: a5 :: a6 :: a7 :: a8 :: a9 :: a10 :: a11 :: a12 :: a13 :: sn_r q :: t) st h Q) : sn_Wp M pc (a0 :: a1 :: a2 :: a3 :: a4 :: a5 :: a6 :: a7 :: a8 :: a9 :: a10 :: a11 :: a12 :: a13 :: a14 :: t) (sn_r q :: st) h Q := sn_q_astore hb hd hM (by show 14 < _; simp only [List.length_cons]; omega) rfl k
theorem sn_q_inc14 (hb : sn_bc M = cc) (hd : decode cc pc = .ok (.iinc 14 n, 3)) (hM : sn_hl M = false) (h1 : -2147483648 ≤ x + n) (h2 : x + n ≤ 2147483647) (k : sn_Wp M (pc + 3) (a0 :: a1 :: a2 :: a3 :: a4 :: a5 :: a6 :: a7 :: a8 :: a9 :: a10 :: a11 :: a12 :: a13 :: sn_i (x + n) :: t) st h Q) : sn_Wp M pc (a0 :: a1 :: a2 :: a3 :: a4 :: a5 :: a6 :: a7 :: a8 :: a9 :: a10 :: a11 :: a12 :: a13 :: sn_i x :: t) st h Q := sn_q_iinc hb hd hM (by show 14 < _; simp only [List.length_cons]; omega) rfl h1 h2 rfl k
theorem sn_q_ist15 (hb : sn_bc M = cc) (hd : decode cc pc = .ok (.istore 15, 2)) (hM : sn_hl M = false) (k : sn_Wp M (pc + 2) (a0 :: a1 :: a2 :: a3 :: a4 :: a5 :: a6 :: a7 :: a8 :: a9 :: a10 :: a11 :: a12 :: a13 :: a14 :: sn_i x :: t) st h Q) : sn_Wp M pc (a0 :: a1 :: a2 :: a3 :: a4 :: a5 :: a6 :: a7 :: a8 :: a9 :: a10 :: a11 :: a12 :: a13 :: a14 :: a15 :: t) (sn_i x :: st) h Q := sn_q_istore hb hd hM (by show 15 < _; simp only [List.length_cons]; omega) rfl k
theorem sn_q_ast15 (hb : sn_bc M = cc) (hd : decode cc pc = .ok (.astore 15, 2)) (hM : sn_hl M = false) (k : sn_Wp M (pc + 2) (a0 :: a1 :: a2 :: a3 :: a4 :: a5 :: a6 :: a7 :: a8 :: a9 :: a10 :: a11 :: a12 :: a13 :: a14 :: sn_r q :: t) st h Q) : sn_Wp M pc (a0 :: a1 :: a2 :: a3 :: a4 :: a5 :: a6 :: a7 :: a8 :: a9 :: a10 :: a11 :: a12 :: a13 :: a14 :: a15 :: t) (sn_r q :: st) h Q := sn_q_astore hb hd hM (by show 15 < _; simp only [List.length_cons]; omega) rfl k
theorem sn_q_inc15 (hb : sn_bc M = cc) (hd : decode cc pc = .ok (.iinc 15 n, 3)) (hM : sn_hl M = false) (h1 : -2147483648 ≤ x + n) (h2 : x + n ≤ 2147483647) (k : sn_Wp M (pc + 3) (a0 :: a1 :: a2 :: a3 :: a4 :: a5 :: a6 :: a7 :: a8 :: a9 :: a10 :: a11 :: a12 :: a13 :: a14 :: sn_i (x + n) :: t) st h Q) : sn_Wp M pc (a0 :: a1 :: a2 :: a3 :: a4 :: a5 :: a6 :: a7 :: a8 :: a9 :: a10 :: a11 :: a12 :: a13 :: a14 :: sn_i x :: t) st h Q := sn_q_iinc hb hd hM (by show 15 < _; simp only [List.length_cons]; omega) rfl h1 h2 rfl k
theorem sn_q_ist16 (hb : sn_bc M = cc) (hd : decode cc pc = .ok (.istore 16, 2)) (hM : sn_hl M = false) (k : sn_Wp M (pc + 2) (a0 :: a1 :: a2 :: a3 :: a4 :: a5 :: a6 :: a7 :: a8 :: a9 :: a10 :: a11 :: a12 :: a13 :: a14 :: a15 :: sn_i x :: t) st h Q) : sn_Wp M pc (a0 :: a1 :: a2 :: a3 :: a4 :: a5 :: a6 :: a7 :: a8 :: a9 :: a10 :: a11 :: a12 :: a13 :: a14 :: a15 :: a16 :: t) (sn_i x :: st) h Q := sn_q_istore hb hd hM (by show 16 < _; simp only [List.length_cons]; omega) rfl k
theorem sn_q_ast16 (hb : sn_bc M = cc) (hd : decode cc pc = .ok (.astore 16, 2)) (hM : sn_hl M = false) (k : sn_Wp M (pc + 2) (a0 :: a1 :: a2 :: a3 :: a4 :: a5 :: a6 :: a7 :: a8 :: a9 :: a10 :: a11 :: a12 :: a13 :: a14 :: a15 :: sn_r q :: t) st h Q) : sn_Wp M pc (a0 :: a1 :: a2 :: a3 :: a4 :: a5 :: a6 :: a7 :: a8 :: a9 :: a10 :: a11 :: a12 :: a13 :: a14 :: a15 :: a16 :: t) (sn_r q :: st) h Q := sn_q_astore hb hd hM (by show 16 < _; simp only [List.length_cons]; omega) rfl k
theorem sn_q_inc16 (hb : sn_bc M = cc) (hd : decode cc pc = .ok (.iinc 16 n, 3)) (hM : sn_hl M = false) (h1 : -2147483648 ≤ x + n) (h2 : x + n ≤ 2147483647) (k : sn_Wp M (pc + 3) (a0 :: a1 :: a2 :: a3 :: a4 :: a5 :: a6 :: a7 :: a8 :: a9 :: a10 :: a11 :: a12 :: a13 :: a14 :: a15 :: sn_i (x + n) :: t) st h Q) : sn_Wp M pc (a0 :: a1 :: a2 :: a3 :: a4 :: a5 :: a6 :: a7 :: a8 :: a9 :: a10 :: a11 :: a12 :: a13 :: a14 :: a15 :: sn_i x :: t) st h Q := sn_q_iinc hb hd hM (by show 16 < _; simp only [List.length_cons]; omega) rfl h1 h2 rfl k
theorem sn_q_ist17 (hb : sn_bc M = cc) (hd : decode cc pc = .ok (.istore 17, 2)) (hM : sn_hl M = false) (k : sn_Wp M (pc + 2) (a0 :: a1 :: a2 :: a3 :: a4 :: a5 :: a6 :: a7 :: a8 :: a9 :: a10 :: a11 :: a12 :: a13 :: a14 :: a15 :: a16 :: sn_i x :: t) st h Q) : sn_Wp M pc (a0 :: a1 :: a2 :: a3 :: a4 :: a5 :: a6 :: a7 :: a8 :: a9 :: a10 :: a11 :: a12 :: a13 :: a14 :: a15 :: a16 :: a17 :: t) (sn_i x :: st) h Q := sn_q_istore hb hd hM (by show 17 < _; simp only [List.length_cons]; omega) rfl k
theorem sn_q_ast17 (hb : sn_bc M = cc) (hd : decode cc pc = .ok (.astore 17, 2)) (hM : sn_hl M = false) (k : sn_Wp M (pc + 2) (a0 :: a1 :: a2 :: a3 :: a4 :: a5 :: a6 :: a7 :: a8 :: a9 :: a10 :: a11 :: a12 :: a13 :: a14 :: a15 :: a16 :: sn_r q :: t) st h Q) : sn_Wp M pc (a0 :: a1 :: a2 :: a3 :: a4 :: a5 :: a6 :: a7 :: a8 :: a9 :: a10 :: a11 :: a12 :: a13 :: a14 :: a15 :: a16 :: a17 :: t) (sn_r q :: st) h Q := sn_q_astore hb hd hM (by show 17 < _; simp only [List.length_cons]; omega) rfl k
theorem sn_q_inc17 (hb : sn_bc M = cc) (hd : decode cc pc = .ok (.iinc 17 n, 3)) (hM : sn_hl M = false) (h1 : -2147483648 ≤ x + n) (h2 : x + n ≤ 2147483647) (k : sn_Wp M (pc + 3) (a0 :: a1 :: a2 :: a3 :: a4 :: a5 :: a6 :: a7 :: a8 :: a9 :: a10 :: a11 :: a12 :: a13 :: a14 :: a15 :: a16 :: sn_i (x + n) :: t) st h Q) : sn_Wp M pc (a0 :: a1 :: a2 :: a3 :: a4 :: a5 :: a6 :: a7 :: a8 :: a9 :: a10 :: a11 :: a12 :: a13 :: a14 :: a15 :: a16 :: sn_i x :: t) st h Q := sn_q_iinc hb hd hM (by show 17 < _; simp only [List.length_cons]; omega) rfl h1 h2 rfl k
theorem sn_q_ist18 (hb : sn_bc M = cc) (hd : decode cc pc = .ok (.istore 18, 2)) (hM : sn_hl M = false) (k : sn_Wp M (pc + 2) (a0 :: a1 :: a2 :: a3 :: a4 :: a5 :: a6 :: a7 :: a8 :: a9 :: a10 :: a11 :: a12 :: a13 :: a14 :: a15 :: a16 :: a17 :: sn_i x :: t) st h Q) : sn_Wp M pc (a0 :: a1 :: a2 :: a3 :: a4 :: a5 :: a6 :: a7 :: a8 :: a9 :: a10 :: a11 :: a12 :: a13 :: a14 :: a15 :: a16 :: a17 :: a18 :: t) (sn_i x :: st) h Q := sn_q_istore hb hd hM (by show 18 < _; simp only [List.length_cons]; omega) rfl k
theorem sn_q_ast18 (hb : sn_bc M = cc) (hd : decode cc pc = .ok (.astore 18, 2)) (hM : sn_hl M = false) (k : sn_Wp M (pc + 2) (a0 :: a1 :: a2 :: a3 :: a4 :: a5 :: a6 :: a7 :: a8 :: a9 :: a10 :: a11 :: a12 :: a13 :: a14 :: a15 :: a16 :: a17 :: sn_r q :: t) st h Q) : sn_Wp M pc (a0 :: a1 :: a2 :: a3 :: a4 :: a5 :: a6 :: a7 :: a8 :: a9 :: a10 :: a11 :: a12 :: a13 :: a14 :: a15 :: a16 :: a17 :: a18 :: t) (sn_r q :: st) h Q := sn_q_astore hb hd hM (by show 18 < _; simp only [List.length_cons]; omega) rfl k
theorem sn_q_inc18 (hb : sn_bc M = cc) (hd : decode cc pc = .ok (.iinc 18 n, 3)) (hM : sn_hl M = false) (h1 : -2147483648 ≤ x + n) (h2 : x + n ≤ 2147483647) (k : sn_Wp M (pc + 3) (a0 :: a1 :: a2 :: a3 :: a4 :: a5 :: a6 :: a7 :: a8 :: a9 :: a10 :: a11 :: a12 :: a13 :: a14 :: a15 :: a16 :: a17 :: sn_i (x + n) :: t) st h Q) : sn_Wp M pc (a0 :: a1 :: a2 :: a3 :: a4 :: a5 :: a6 :: a7 :: a8 :: a9 :: a10 :: a11 :: a12 :: a13 :: a14 :: a15 :: a16 :: a17 :: sn_i x :: t) st h Q := sn_q_iinc hb hd hM (by show 18 < _; simp only [List.length_cons]; omega) rfl h1 h2 rfl k
theorem sn_fz (h : x = 0 ∨ x = 1) : sn_fits 1 (sn_i x) = true := by rcases h with rfl | rfl <;> rfl
end SNST
theorem sn_p19 {x : Int} (h0 : 0 ≤ x) : ((20 + x.toNat : Nat) : Int) = 20 + x := by omega
theorem sn_p64 {x : Int} (h0 : 0 ≤ x) : ((65 + x.toNat : Nat) : Int) = 65 + x := by omega
theorem sn_p73 {x : Int} (h0 : 0 ≤ x) : ((74 + x.toNat : Nat) : Int) = 74 + x := by omega
theorem sn_p82 {x : Int} (h0 : 0 ≤ x) : ((83 + x.toNat : Nat) : Int) = 83 + x := by omega
theorem sn_p97 {x : Int} (h0 : 0 ≤ x) : ((98 + x.toNat : Nat) : Int) = 98 + x := by omega
theorem sn_p179 {x : Int} (h0 : 0 ≤ x) : ((180 + x.toNat : Nat) : Int) = 180 + x := by omega
theorem sn_p188 {x : Int} (h0 : 0 ≤ x) : ((189 + x.toNat : Nat) : Int) = 189 + x := by omega
theorem sn_p197 {x : Int} (h0 : 0 ≤ x) : ((198 + x.toNat : Nat) : Int) = 198 + x := by omega
theorem sn_p218 {x : Int} (h0 : 0 ≤ x) : ((219 + x.toNat : Nat) : Int) = 219 + x := by omega
