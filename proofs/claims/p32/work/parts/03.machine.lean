/-! Tables, written by program (wip/p32/tables.py) out of the claim's own names: methods by number, what a constant pool entry stands for -/
def sn_bcl : List ByteArray := [cX9_init, cX3_init, cX7_init, cX8_init, cX0_init, cX2_init, cX4_init, cX6_init, cX5_init, cX1_init, cL_cell, cL_below, cX9_land, cX9_isWithin, cX9_needPhase, cX3_add, cX9_rules, cX9_enter, cX9_needLand, cX7_add, cX8_insert, cX9_many, cX9_count, cX2_countAll, cX2_countLand, cX0_given, cX0_numberOf, cX2_addBallots, cX2_clearRow, cX2_isCounting, cX0_addWeights, cX9_weight, cX2_sortCandidates, cX7_writeCandidates, cX7_isCandidate, cX9_sortDown, cX2_findOutlier, cX0_distance, Lib.Math.abs.code, cX2_findPraised, cX0_firstOn, cX2_voidPairs, cX2_borrowSums, cX2_addCandidates, cX2_givePoints, cX4_countLand, cX4_countSong, cX4_fullCallers, cX4_lineOf, cX4_givePoints, cX5_countAll, cX7_isRunning, cX5_addPoints, cX5_keyWithout, cX8_placeOf, cX9_numberOfContest, cX8_delay, cX8_delayOf, Lib.Math.max.code, cX9_voidJuries, cX9_bestMove, cX9_canMove, cX8_bestShift, cX8_isOfHalf, cX8_delayWith, cX8_writeTrial, cX9_move, cX8_shift, cX9_start, cX9_at, cX9_jury, cX7_candidatesOf, cX7_running, cX9_ordersOf, cX0_write, cX9_ofSong, cX9_needSong, cX9_numberOfSong, cX5_rankOf, cX1_juryOf, cX9_call, cX4_take, Lib.Math.min.code, cX9_disqualify, cX7_putOut, cX0_takeOut, cX1_wipe, cL_areGiven, cL_has, cX9_gives, cX9_ofLand, cX9_numberOfLand, cX9_ranked, cX5_songAt, cX9_meanTotal, cX5_sumOfTotals, cX9_close, cL_isRead, cX9_nextRead, cX9_closestLand, cX1_canRead, cX1_leadWith, cX9_read, cX1_takeLand, cX1_put, cX2_topOf, cX9_correct, cX9_readCalls, cX1_nextSong, cX1_takeCalls, cX9_isOpen, cX9_canStillChange, cX1_hopefuls, cX1_stillToCome, cL_isEnded, cX9_end, cX9_findHost, cX9_next, cX7_clear, cX8_clear, cX0_clear, cX4_clear, cX1_clear, cX9_digest, cX9_digestOfLand, cX5_leaderWithout, cX4_needed, cX4_winsTie, cX9_without, cL_law]
def sn_bc (m : Nat) : ByteArray := sn_bcl.getD m ⟨#[]⟩
def sn_yl : List MethodName := [yX9_init, yX3_init, yX7_init, yX8_init, yX0_init, yX2_init, yX4_init, yX6_init, yX5_init, yX1_init, yL_cell, yL_below, yX9_land, yX9_isWithin, yX9_needPhase, yX3_add, yX9_rules, yX9_enter, yX9_needLand, yX7_add, yX8_insert, yX9_many, yX9_count, yX2_countAll, yX2_countLand, yX0_given, yX0_numberOf, yX2_addBallots, yX2_clearRow, yX2_isCounting, yX0_addWeights, yX9_weight, yX2_sortCandidates, yX7_writeCandidates, yX7_isCandidate, yX9_sortDown, yX2_findOutlier, yX0_distance, Lib.Math.abs.name, yX2_findPraised, yX0_firstOn, yX2_voidPairs, yX2_borrowSums, yX2_addCandidates, yX2_givePoints, yX4_countLand, yX4_countSong, yX4_fullCallers, yX4_lineOf, yX4_givePoints, yX5_countAll, yX7_isRunning, yX5_addPoints, yX5_keyWithout, yX8_placeOf, yX9_numberOfContest, yX8_delay, yX8_delayOf, Lib.Math.max.name, yX9_voidJuries, yX9_bestMove, yX9_canMove, yX8_bestShift, yX8_isOfHalf, yX8_delayWith, yX8_writeTrial, yX9_move, yX8_shift, yX9_start, yX9_at, yX9_jury, yX7_candidatesOf, yX7_running, yX9_ordersOf, yX0_write, yX9_ofSong, yX9_needSong, yX9_numberOfSong, yX5_rankOf, yX1_juryOf, yX9_call, yX4_take, Lib.Math.min.name, yX9_disqualify, yX7_putOut, yX0_takeOut, yX1_wipe, yL_areGiven, yL_has, yX9_gives, yX9_ofLand, yX9_numberOfLand, yX9_ranked, yX5_songAt, yX9_meanTotal, yX5_sumOfTotals, yX9_close, yL_isRead, yX9_nextRead, yX9_closestLand, yX1_canRead, yX1_leadWith, yX9_read, yX1_takeLand, yX1_put, yX2_topOf, yX9_correct, yX9_readCalls, yX1_nextSong, yX1_takeCalls, yX9_isOpen, yX9_canStillChange, yX1_hopefuls, yX1_stillToCome, yL_isEnded, yX9_end, yX9_findHost, yX9_next, yX7_clear, yX8_clear, yX0_clear, yX4_clear, yX1_clear, yX9_digest, yX9_digestOfLand, yX5_leaderWithout, yX4_needed, yX4_winsTie, yX9_without, yL_law]
def sn_y (m : Nat) : MethodName := sn_yl.getD m yL_law
def sn_mll : List Nat := [7, 1, 1, 2, 2, 4, 2, 1, 5, 3, 2, 2, 3, 3, 2, 3, 7, 6, 2, 5, 5, 2, 2, 3, 3, 4, 2, 3, 2, 3, 6, 1, 2, 5, 3, 6, 6, 7, 1, 5, 4, 3, 3, 4, 4, 4, 8, 6, 2, 9, 2, 2, 3, 9, 3, 2, 1, 5, 2, 3, 1, 1, 6, 3, 3, 5, 3, 4, 1, 2, 4, 2, 1, 3, 12, 3, 2, 3, 3, 4, 5, 8, 2, 2, 2, 5, 3, 11, 3, 4, 3, 3, 2, 2, 2, 3, 1, 8, 1, 5, 2, 6, 2, 4, 5, 3, 2, 3, 5, 3, 1, 1, 5, 4, 9, 1, 3, 1, 2, 1, 2, 3, 2, 5, 7, 6, 6, 6, 2, 19]
def sn_ml (m : Nat) : Nat := sn_mll.getD m 0
def sn_rkl : List Nat := [4, 4, 4, 4, 4, 4, 4, 4, 4, 4, 0, 0, 0, 1, 4, 0, 0, 0, 4, 4, 4, 0, 4, 4, 4, 0, 0, 4, 4, 1, 4, 0, 4, 0, 1, 4, 0, 0, 0, 0, 0, 4, 4, 4, 4, 4, 4, 0, 0, 4, 4, 1, 4, 0, 0, 0, 0, 0, 0, 0, 0, 1, 0, 1, 0, 4, 0, 4, 0, 0, 0, 0, 0, 0, 4, 0, 4, 0, 0, 0, 0, 0, 0, 0, 4, 4, 4, 1, 1, 0, 0, 0, 0, 0, 3, 0, 0, 1, 0, 0, 1, 0, 0, 4, 0, 0, 0, 0, 0, 4, 1, 1, 0, 0, 1, 0, 0, 0, 4, 4, 4, 4, 4, 2, 2, 0, 0, 1, 0, 1]
def sn_rk (m : Nat) : Nat := sn_rkl.getD m 5
def sn_rt (m : Nat) : Option FieldType := match sn_rk m with
  | 0 => some .int
  | 1 => some .boolean
  | 2 => some .long
  | 3 => some .double
  | _ => none
def sn_ocl : List Nat := [9, 3, 7, 8, 0, 2, 4, 6, 5, 1, 10, 10, 9, 9, 9, 3, 9, 9, 9, 7, 8, 9, 9, 2, 2, 0, 0, 2, 2, 2, 0, 9, 2, 7, 7, 9, 2, 0, 11, 2, 0, 2, 2, 2, 2, 4, 4, 4, 4, 4, 5, 7, 5, 5, 8, 9, 8, 8, 11, 9, 9, 9, 8, 8, 8, 8, 9, 8, 9, 9, 9, 7, 7, 9, 0, 9, 9, 9, 5, 1, 9, 4, 11, 9, 7, 0, 1, 10, 10, 9, 9, 9, 9, 5, 9, 5, 9, 10, 9, 9, 1, 1, 9, 1, 1, 2, 9, 9, 1, 1, 9, 9, 1, 1, 10, 9, 9, 9, 7, 8, 0, 4, 1, 9, 9, 5, 4, 4, 9, 10]
def sn_oc (m : Nat) : Nat := sn_ocl.getD m 12
def sn_frl : List Nat := [2, 1, 1, 1, 1, 1, 1, 1, 1, 1, 0, 0, 1, 0, 0, 0, 1, 2, 1, 0, 0, 6, 5, 4, 3, 1, 0, 2, 0, 1, 1, 0, 2, 1, 0, 0, 2, 1, 0, 2, 1, 0, 2, 1, 1, 3, 2, 1, 0, 2, 2, 0, 0, 1, 0, 3, 2, 1, 0, 0, 4, 0, 3, 0, 2, 0, 3, 1, 1, 1, 3, 1, 0, 0, 2, 7, 6, 1, 0, 0, 7, 1, 0, 7, 0, 0, 0, 9, 8, 7, 6, 2, 6, 1, 6, 0, 6, 9, 6, 2, 0, 1, 6, 2, 1, 0, 6, 6, 1, 0, 3, 2, 1, 0, 7, 6, 2, 2, 0, 0, 0, 0, 1, 6, 3, 2, 1, 0, 6, 10]
def sn_fr (m : Nat) : Nat := sn_frl.getD m 0
def sn_lol : List Nat := [44, 20, 20, 20, 20, 20, 20, 20, 20, 20, 0, 0, 22, 0, 0, 0, 22, 43, 22, 0, 0, 137, 116, 94, 72, 21, 0, 46, 0, 21, 21, 0, 46, 22, 0, 0, 47, 21, 0, 44, 21, 0, 45, 22, 21, 73, 46, 21, 0, 46, 50, 0, 0, 22, 0, 65, 45, 21, 0, 0, 92, 0, 67, 0, 45, 0, 65, 24, 21, 22, 77, 21, 0, 0, 46, 137, 90, 23, 0, 0, 111, 21, 0, 111, 0, 0, 0, 181, 159, 137, 137, 44, 137, 22, 137, 0, 137, 181, 137, 48, 0, 23, 137, 45, 21, 0, 137, 137, 23, 0, 67, 47, 23, 0, 159, 137, 43, 43, 0, 0, 0, 0, 22, 137, 75, 50, 25, 0, 137, 211]
def sn_lo (m : Nat) : Nat := sn_lol.getD m 0
def sn_hl (m : Nat) : Bool := decide (m = 123) || decide (m = 124) || decide (m = 129)
def sn_in (m : Nat) : Bool := decide (m ∈ [0, 1, 2, 3, 4, 5, 6, 7, 8, 9])
def sn_cn (o : Nat) : String := match o with
  | 0 => RX0
  | 1 => RX1
  | 2 => RX2
  | 3 => RX3
  | 4 => RX4
  | 5 => RX5
  | 6 => RX6
  | 7 => RX7
  | 8 => RX8
  | 9 => RX9
  | 10 => RL
  | _ => "java/lang/Math"
abbrev sn_cls : List vw_C := [(RX0, TX0, 5), (RX1, TX1, 9), (RX2, TX2, 11), (RX3, TX3, 6), (RX4, TX4, 11), (RX5, TX5, 9), (RX6, TX6, 5), (RX7, TX7, 7), (RX8, TX8, 5), (RX9, TX9, 16)]
def sn_nf (ci : Nat) : Nat := [5, 9, 11, 6, 11, 9, 5, 7, 5, 16].getD ci 0
def sn_ftl : List (List Nat) := [[2, 2, 2, 2, 2], [2, 2, 2, 2, 2, 2, 2, 0, 0], [2, 2, 2, 2, 2, 2, 2, 2, 2, 2, 2], [0, 2, 2, 2, 2, 2], [2, 2, 2, 2, 2, 2, 2, 2, 2, 2, 2], [2, 2, 2, 2, 2, 2, 2, 2, 0], [0, 0, 0, 0, 1], [0, 0, 2, 2, 2, 2, 2], [2, 2, 2, 0, 0], [2, 2, 2, 2, 2, 2, 2, 2, 2, 0, 0, 0, 0, 0, 0, 1]]
def sn_ft (ci k : Nat) : Nat := (sn_ftl.getD ci []).getD k 3
def sn_ffl : List (List Bool) := [[true, true, true, true, true], [true, true, true, true, true, true, true, false, false], [true, true, true, true, true, true, true, true, true, true, true], [false, true, true, true, true, true], [true, true, true, true, true, true, true, true, true, true, true], [true, true, true, true, true, true, true, true, false], [false, false, false, false, false], [false, false, true, true, true, true, true], [true, true, true, false, false], [true, true, true, true, true, true, true, true, true, false, false, false, false, false, false, false]]
def sn_ff (ci k : Nat) : Bool := (sn_ffl.getD ci []).getD k true

def sn_pfl_1 : List (Nat × Nat × Nat × Nat) := [(0, 11, 0, 1), (0, 16, 0, 2), (0, 20, 0, 3), (0, 24, 0, 4), (0, 27, 0, 0), (1, 11, 1, 2), (1, 16, 1, 3), (1, 20, 1, 4), (1, 24, 1, 5), (1, 27, 1, 6), (1, 30, 1, 7), (1, 34, 1, 8)]
def sn_pfl_2 : List (Nat × Nat × Nat × Nat) := [(1, 37, 1, 0), (1, 41, 1, 1), (1, 49, 3, 0), (2, 11, 2, 3), (2, 16, 2, 4), (2, 19, 2, 5), (2, 22, 2, 6), (2, 26, 2, 7), (2, 29, 2, 8), (2, 33, 2, 9), (2, 36, 2, 10), (2, 39, 2, 0)]
def sn_pfl_3 : List (Nat × Nat × Nat × Nat) := [(2, 43, 2, 1), (2, 47, 2, 2), (2, 51, 3, 0), (2, 88, 0, 3), (2, 124, 3, 1), (3, 9, 3, 0), (3, 15, 3, 1), (3, 19, 3, 2), (3, 22, 3, 3), (3, 25, 3, 4), (3, 28, 3, 5), (4, 11, 4, 1)]
def sn_pfl_4 : List (Nat × Nat × Nat × Nat) := [(4, 16, 4, 2), (4, 20, 4, 3), (4, 23, 4, 4), (4, 26, 4, 5), (4, 29, 4, 6), (4, 32, 4, 7), (4, 35, 4, 8), (4, 38, 4, 9), (4, 41, 4, 10), (4, 44, 4, 0), (5, 9, 5, 4), (5, 15, 5, 5)]
def sn_pfl_5 : List (Nat × Nat × Nat × Nat) := [(5, 18, 5, 6), (5, 21, 5, 7), (5, 24, 5, 8), (5, 28, 5, 0), (5, 32, 5, 1), (5, 36, 5, 2), (5, 40, 5, 3), (5, 62, 2, 5), (5, 68, 4, 5), (6, 7, 6, 0), (6, 13, 6, 1), (6, 16, 6, 2)]
def sn_pfl_6 : List (Nat × Nat × Nat × Nat) := [(6, 19, 6, 3), (6, 22, 6, 4), (7, 9, 7, 0), (7, 15, 7, 1), (7, 18, 7, 2), (7, 22, 7, 3), (7, 25, 7, 4), (7, 29, 7, 5), (7, 32, 7, 6), (8, 9, 8, 1), (8, 15, 8, 2), (8, 18, 8, 3)]
def sn_pfl_7 : List (Nat × Nat × Nat × Nat) := [(8, 22, 8, 4), (8, 25, 8, 0), (8, 29, 7, 6), (8, 50, 7, 2), (8, 62, 7, 5), (9, 32, 9, 0), (9, 38, 9, 1), (9, 42, 9, 2), (9, 46, 9, 3), (9, 50, 9, 4), (9, 54, 9, 5), (9, 58, 9, 6)]
def sn_pfl_8 : List (Nat × Nat × Nat × Nat) := [(9, 67, 9, 7), (9, 76, 9, 8), (9, 80, 9, 9), (9, 84, 9, 10), (9, 87, 9, 11), (9, 90, 9, 12), (9, 93, 9, 13), (9, 96, 9, 14), (9, 99, 9, 15), (9, 118, 3, 0), (9, 134, 7, 0), (9, 137, 6, 0)]
def sn_pfl_9 : List (Nat × Nat × Nat × Nat) := [(9, 140, 6, 1), (9, 143, 6, 2), (9, 146, 6, 3), (9, 149, 6, 4), (9, 157, 7, 2), (9, 169, 3, 3), (9, 238, 7, 3), (9, 260, 1, 4), (9, 277, 2, 5), (9, 291, 1, 7), (9, 296, 5, 5), (9, 313, 3, 4)]
def sn_pfl_10 : List (Nat × Nat × Nat × Nat) := [(9, 319, 3, 5), (9, 341, 4, 5), (9, 342, 8, 3), (9, 343, 8, 1), (9, 379, 5, 8), (9, 380, 5, 6), (9, 381, 3, 1), (9, 384, 3, 2), (9, 390, 2, 7), (9, 393, 2, 8), (9, 396, 4, 6), (9, 399, 4, 7)]
def sn_pfl_11 : List (Nat × Nat × Nat × Nat) := [(9, 402, 7, 4), (9, 405, 7, 5), (9, 408, 7, 6), (9, 414, 5, 4), (9, 423, 1, 3), (9, 426, 7, 1), (9, 429, 1, 8)]
def sn_pfl : List (Nat × Nat × Nat × Nat) := sn_pfl_1 ++ (sn_pfl_2 ++ (sn_pfl_3 ++ (sn_pfl_4 ++ (sn_pfl_5 ++ (sn_pfl_6 ++ (sn_pfl_7 ++ (sn_pfl_8 ++ (sn_pfl_9 ++ (sn_pfl_10 ++ (sn_pfl_11))))))))))
def sn_pnl_1 : List (Nat × Nat × Nat) := [(9, 7, 3), (9, 10, 7), (9, 13, 8), (9, 18, 0), (9, 21, 2), (9, 26, 4), (9, 29, 6), (9, 62, 5), (9, 71, 1), (10, 9, 9)]
def sn_pnl : List (Nat × Nat × Nat) := sn_pnl_1
def sn_pil_1 : List (Nat × Nat × Int) := [(10, 7, 2147483647), (10, 8, 790386105)]
def sn_pil : List (Nat × Nat × Int) := sn_pil_1
def sn_pll_1 : List (Nat × Nat × Int) := [(9, 371, 58219), (9, 373, 31)]
def sn_pll : List (Nat × Nat × Int) := sn_pll_1
def sn_nl : List (Nat × Nat × Nat) := [(0, 41, 73), (0, 45, 31), (2, 113, 35), (2, 134, 31), (4, 78, 35), (4, 82, 31), (5, 58, 35), (5, 77, 13), (9, 9, 1), (9, 12, 2), (9, 31, 7)]
def sn_pvl_1 : List (Nat × Nat × Nat × Nat) := [(0, 35, 33, 2), (1, 45, 86, 1), (1, 58, 104, 2), (1, 68, 51, 1), (1, 73, 79, 1), (1, 80, 113, 1), (2, 57, 24, 1), (2, 61, 41, 0), (2, 64, 42, 1), (2, 67, 32, 1), (2, 70, 44, 1), (2, 73, 25, 1)]
def sn_pvl_2 : List (Nat × Nat × Nat × Nat) := [(2, 79, 27, 1), (2, 82, 36, 1), (2, 85, 39, 1), (2, 99, 29, 2), (2, 103, 30, 3), (2, 107, 33, 2), (2, 117, 37, 3), (2, 121, 40, 2), (2, 127, 43, 2), (2, 131, 34, 2), (4, 60, 46, 3), (4, 64, 34, 2)]
def sn_pvl_3 : List (Nat × Nat × Nat × Nat) := [(4, 70, 47, 3), (4, 74, 33, 2), (4, 86, 127, 3), (5, 44, 51, 1), (5, 50, 52, 1), (5, 54, 53, 2), (5, 71, 54, 1), (7, 35, 72, 0), (7, 39, 51, 1), (7, 43, 34, 2), (8, 38, 65, 2), (8, 42, 57, 1)]
def sn_pvl_4 : List (Nat × Nat × Nat × Nat) := [(8, 46, 56, 0), (8, 54, 63, 2), (8, 58, 64, 2), (9, 114, 14, 1), (9, 126, 15, 2), (9, 152, 18, 1), (9, 163, 19, 4), (9, 166, 20, 1), (9, 181, 61, 0), (9, 185, 63, 2), (9, 191, 67, 2), (9, 195, 56, 0)]
def sn_pvl_5 : List (Nat × Nat × Nat × Nat) := [(9, 206, 71, 1), (9, 215, 74, 3), (9, 219, 40, 2), (9, 222, 76, 1), (9, 227, 34, 2), (9, 232, 81, 5), (9, 241, 72, 0), (9, 246, 84, 1), (9, 249, 85, 1), (9, 252, 86, 1), (9, 255, 22, 0), (9, 257, 59, 0)]
def sn_pvl_6 : List (Nat × Nat × Nat × Nat) := [(9, 271, 100, 1), (9, 281, 103, 2), (9, 285, 105, 1), (9, 288, 108, 0), (9, 299, 109, 2), (9, 304, 104, 2), (9, 310, 93, 1), (9, 316, 116, 0), (9, 324, 118, 0), (9, 327, 119, 0), (9, 328, 120, 0), (9, 329, 121, 0)]
def sn_pvl_7 : List (Nat × Nat × Nat × Nat) := [(9, 330, 122, 0), (9, 333, 91, 2), (9, 338, 77, 2), (9, 350, 55, 1), (9, 353, 95, 0), (9, 356, 111, 0), (9, 359, 99, 0), (9, 362, 125, 1), (9, 365, 126, 2), (9, 368, 62, 0), (9, 375, 124, 2), (9, 387, 25, 1)]
def sn_pvl_8 : List (Nat × Nat × Nat × Nat) := [(9, 411, 54, 1), (9, 417, 78, 1), (9, 420, 79, 1), (9, 432, 112, 0), (9, 435, 101, 1), (9, 445, 23, 1), (9, 449, 45, 2), (9, 452, 49, 3), (9, 456, 50, 0), (10, 22, 12, 2), (10, 25, 16, 5), (10, 29, 17, 4)]
def sn_pvl_9 : List (Nat × Nat × Nat × Nat) := [(10, 33, 21, 1), (10, 37, 60, 0), (10, 41, 66, 2), (10, 44, 68, 0), (10, 47, 69, 1), (10, 50, 70, 3), (10, 54, 75, 2), (10, 57, 80, 4), (10, 60, 83, 1), (10, 67, 96, 0), (10, 78, 123, 0), (10, 82, 110, 0)]
def sn_pvl_10 : List (Nat × Nat × Nat × Nat) := [(10, 86, 98, 0), (10, 89, 128, 1), (10, 96, 89, 3), (10, 100, 90, 2), (10, 103, 92, 1), (10, 106, 94, 0), (10, 112, 102, 1), (10, 115, 106, 1), (10, 118, 107, 0), (10, 121, 115, 0), (10, 124, 117, 0)]
def sn_pvl : List (Nat × Nat × Nat × Nat) := sn_pvl_1 ++ (sn_pvl_2 ++ (sn_pvl_3 ++ (sn_pvl_4 ++ (sn_pvl_5 ++ (sn_pvl_6 ++ (sn_pvl_7 ++ (sn_pvl_8 ++ (sn_pvl_9 ++ (sn_pvl_10)))))))))
def sn_psl_1 : List (Nat × Nat × Nat × Nat) := [(0, 31, 26, 2), (0, 41, 73, 1), (0, 45, 31, 1), (2, 91, 26, 2), (2, 95, 28, 1), (2, 113, 35, 3), (2, 134, 31, 1), (4, 48, 48, 2), (4, 78, 35, 3), (4, 82, 31, 1), (5, 58, 35, 3), (5, 77, 13, 3)]
def sn_psl_2 : List (Nat × Nat × Nat × Nat) := [(9, 103, 13, 3), (9, 210, 73, 1), (10, 12, 10, 2), (10, 18, 11, 2), (10, 63, 87, 3), (10, 70, 97, 4), (10, 74, 114, 3), (10, 92, 88, 2)]
def sn_psl : List (Nat × Nat × Nat × Nat) := sn_psl_1 ++ (sn_psl_2)
def sn_pcl_1 : List (Nat × Nat × Nat × Nat) := [(0, 3, 200, 0), (1, 3, 200, 0), (2, 3, 200, 0), (3, 3, 200, 0), (4, 3, 200, 0), (5, 3, 200, 0), (6, 1, 200, 0), (7, 3, 200, 0), (8, 3, 200, 0), (9, 1, 200, 0), (9, 9, 1, 0), (9, 12, 2, 0)]
def sn_pcl_2 : List (Nat × Nat × Nat × Nat) := [(9, 15, 3, 1), (9, 20, 4, 1), (9, 23, 5, 3), (9, 28, 6, 1), (9, 31, 7, 0), (9, 64, 8, 4), (9, 73, 9, 2), (10, 11, 0, 0)]
def sn_pcl : List (Nat × Nat × Nat × Nat) := sn_pcl_1 ++ (sn_pcl_2)
def sn_pxl_1 : List (Nat × Nat × Nat) := [(0, 48, 0), (1, 62, 0), (1, 76, 1), (4, 52, 2), (4, 57, 1), (8, 65, 1)]
def sn_pxl : List (Nat × Nat × Nat) := sn_pxl_1

def sn_pi (o i : Nat) : Option Int := (sn_pil.find? (fun q => q.1 == o && q.2.1 == i)).map (fun q => q.2.2)
def sn_pl (o i : Nat) : Option Int := (sn_pll.find? (fun q => q.1 == o && q.2.1 == i)).map (fun q => q.2.2)
def sn_pf (o i : Nat) : Option (Nat × Nat) := (sn_pfl.find? (fun q => q.1 == o && q.2.1 == i)).map (fun q => q.2.2)
def sn_pn (o i : Nat) : Option Nat := (sn_pnl.find? (fun q => q.1 == o && q.2.1 == i)).map (fun q => q.2.2)
def sn_pv (o i : Nat) : Option (Nat × Nat) := (sn_pvl.find? (fun q => q.1 == o && q.2.1 == i)).map (fun q => q.2.2)
def sn_ps (o i : Nat) : Option (Nat × Nat) := (sn_psl.find? (fun q => q.1 == o && q.2.1 == i)).map (fun q => q.2.2)
def sn_pc (o i : Nat) : Option (Nat × Nat) := (sn_pcl.find? (fun q => q.1 == o && q.2.1 == i)).map (fun q => q.2.2)
def sn_px (o i : Nat) : Option Nat := (sn_pxl.find? (fun q => q.1 == o && q.2.1 == i)).map (fun q => q.2.2)


/-! Whole numbers of 32 and 64 bits, seen as integers -/
def sn_dv (x y : Int) : Int := (Int32.ofInt x / Int32.ofInt y).toInt
def sn_rm (x y : Int) : Int := (Int32.ofInt x - Int32.ofInt x / Int32.ofInt y * Int32.ofInt y).toInt
def sn_an (x y : Int) : Int := (Int32.ofInt x &&& Int32.ofInt y).toInt
def sn_sh (x y : Int) : Int := (Int32.ofInt x >>> (Int32.ofInt y &&& 31)).toInt
def sn_lc (x y : Int) : Int := (lg_cmp (Int64.ofInt x) (Int64.ofInt y)).toInt

/-! A plain machine beside the real one: values, a heap of places, one step, runs. Written for this class; 'sn_sim' (next part) says that the real one follows it. -/
/-- values: a whole number, a place or null, a long, a double's bits, nothing known -/
abbrev sn_V : Type := Int ⊕ (Option Nat ⊕ (Int ⊕ (UInt64 ⊕ Unit)))
abbrev sn_i (z : Int) : sn_V := .inl z
abbrev sn_r (k : Nat) : sn_V := .inr (.inl (some k))
abbrev sn_n : sn_V := .inr (.inl none)
abbrev sn_l (z : Int) : sn_V := .inr (.inr (.inl z))
abbrev sn_d (b : UInt64) : sn_V := .inr (.inr (.inr (.inl b)))
abbrev sn_u : sn_V := .inr (.inr (.inr (.inr ())))
/-- how many places, how many slots were made, each place's kind and length, what lies there -/
abbrev sn_H : Type := Nat × Nat × (Nat → Nat × Nat) × (Nat → Nat → sn_V)
/-- a whole number as the machine keeps it: 32 bits, 64 bits -/
def sn_wr (z : Int) : Int := (Int32.ofInt z).toInt
def sn_wl (z : Int) : Int := (Int64.ofInt z).toInt
def sn_inR (z : Int) : Bool := decide (-2147483648 ≤ z) && decide (z ≤ 2147483647)
def sn_w (C : Nat → Nat → sn_V) (p j : Nat) (v : sn_V) : Nat → Nat → sn_V := fun q i => if q = p ∧ i = j then v else C q i
/-- a new place of this kind and length, holding f -/
def sn_pu (h : sn_H) (tag len : Nat) (f : Nat → sn_V) : sn_H :=
  (h.1 + 1, h.2.1 + len, fun q => if q = h.1 then (tag, len) else h.2.2.1 q, fun q i => if q = h.1 then f i else h.2.2.2 q i)
/-- new int[a][b]: the outer one, then the rows -/
def sn_pm (h : sn_H) (a b : Nat) : sn_H :=
  (h.1 + 1 + a, h.2.1 + a + a * b, fun q => if q = h.1 then (102, a) else if h.1 < q ∧ q < h.1 + 1 + a then (100, b) else h.2.2.1 q,
   fun q i => if q = h.1 then (if i < a then sn_r (h.1 + 1 + i) else sn_n) else if h.1 < q ∧ q < h.1 + 1 + a then sn_i 0 else h.2.2.2 q i)
def sn_two : sn_V → Bool
  | .inr (.inr (.inl _)) => true
  | .inr (.inr (.inr (.inl _))) => true
  | _ => false
/-- the arguments as the callee's first locals -/
def sn_lay : List sn_V → List sn_V
  | [] => []
  | v :: r => if sn_two v then v :: sn_u :: sn_lay r else v :: sn_lay r
def sn_isN (v : sn_V) : Bool := match v with
  | .inl _ => true
  | .inr (.inl _) => true
  | _ => false
/-- what a step comes to: the next state; an end; a call (which method, its arguments, and where it goes on) -/
abbrev sn_O : Type := (Nat × List sn_V × List sn_V × sn_H) ⊕ ((Option sn_V × sn_H) ⊕ (Nat × List sn_V × Nat × List sn_V × List sn_V × sn_H))
def sn_goto (pc : Nat) (off : Int) (lv st : List sn_V) (h : sn_H) : Option sn_O := if 0 ≤ (pc : Int) + off then some (.inl (((pc : Int) + off).toNat, lv, st, h)) else none
def sn_cmp (c : ClassFile.Cond) (x y : Int) : Bool := match c with
  | .eq => decide (x = y)
  | .ne => decide (x ≠ y)
  | .lt => decide (x < y)
  | .ge => decide (y ≤ x)
  | .gt => decide (y < x)
  | .le => decide (x ≤ y)
def sn_ld (pc : Nat) (lv st : List sn_V) (h : sn_H) (k : Nat) (ok : sn_V → Bool) : Option sn_O := match lv[k]? with
  | some v => if ok v then some (.inl (pc, lv, v :: st, h)) else none
  | none => none
def sn_isI (v : sn_V) : Bool := match v with
  | .inl _ => true
  | _ => false
def sn_isA (v : sn_V) : Bool := match v with
  | .inr (.inl _) => true
  | _ => false
def sn_isL (v : sn_V) : Bool := match v with
  | .inr (.inr (.inl _)) => true
  | _ => false
/-- storing at local k; where the method has longs among its locals, the place ahead must not hold one -/
def sn_so (M pc : Nat) (lv st : List sn_V) (h : sn_H) (k : Nat) (v : sn_V) : Option sn_O :=
  if k < lv.length then (if sn_hl M && (0 < k) && sn_two (lv.getD (k - 1) sn_u) then none else some (.inl (pc, lv.set k v, st, h))) else none
def sn_so2 (M pc : Nat) (lv st : List sn_V) (h : sn_H) (k : Nat) (v : sn_V) : Option sn_O :=
  if sn_hl M && decide (k + 1 < lv.length) then (if (0 < k) && sn_two (lv.getD (k - 1) sn_u) then none else some (.inl (pc, (lv.set k v).set (k + 1) sn_u, st, h))) else none
def sn_call (M j a pc : Nat) (lv st : List sn_V) (h : sn_H) : Option sn_O :=
  if decide (sn_fr j + 1 ≤ sn_fr M) && decide (sn_lo j + sn_ml j + 19 ≤ sn_lo M) && decide (a ≤ st.length) && decide ((st.drop a).length ≤ 4) && decide ((sn_lay (st.take a).reverse).length ≤ sn_ml j) && (sn_hl j || (st.take a).all (fun v => !sn_two v)) then
    some (.inr (.inr (j, (st.take a).reverse, pc, lv, st.drop a, h))) else none
def sn_idx (h : sn_H) (p : Nat) (i : Int) (tag : Nat) : Bool := decide (p < h.1) && decide ((h.2.2.1 p).1 = tag) && decide (0 ≤ i) && decide (i < ((h.2.2.1 p).2 : Int))
def sn_fits (t : Nat) (v : sn_V) : Bool := match t, v with
  | 0, .inl _ => true
  | 1, .inl z => decide (z = 0) || decide (z = 1)
  | 2, .inr (.inl _) => true
  | _, _ => false
def sn_rets (t : Nat) (v : sn_V) : Bool := match t, v with
  | 0, .inl _ => true
  | 1, .inl z => decide (z = 0) || decide (z = 1)
  | _, _ => false
/-- one instruction of method M -/
def sn_do (M pc : Nat) (ins : Instr) (lv st : List sn_V) (h : sn_H) : Option sn_O := match ins with
  | .iconst n => if sn_inR n then some (.inl (pc + 1, lv, sn_i n :: st, h)) else none
  | .bipush n => if decide (-128 ≤ n) && decide (n ≤ 127) then some (.inl (pc + 2, lv, sn_i n :: st, h)) else none
  | .sipush n => if decide (-32768 ≤ n) && decide (n ≤ 32767) then some (.inl (pc + 3, lv, sn_i n :: st, h)) else none
  | .ldc i => match sn_pi (sn_oc M) i with
    | some z => if sn_inR z then some (.inl (pc + 2, lv, sn_i z :: st, h)) else none
    | none => none
  | .ldc2_w i => match sn_pl (sn_oc M) i with
    | some z => if decide (sn_wl z = z) then some (.inl (pc + 3, lv, sn_l z :: st, h)) else none
    | none => none
  | .dconst n => if n = 0 then some (.inl (pc + 1, lv, sn_d FP.dconst0 :: st, h)) else none
  | .iload_n k => sn_ld (pc + 1) lv st h k.val sn_isI
  | .iload k => sn_ld (pc + 2) lv st h k sn_isI
  | .aload_n k => sn_ld (pc + 1) lv st h k.val sn_isA
  | .aload k => sn_ld (pc + 2) lv st h k sn_isA
  | .lload_n k => sn_ld (pc + 1) lv st h k.val sn_isL
  | .lload k => sn_ld (pc + 2) lv st h k sn_isL
  | .istore_n k => match st with
    | .inl z :: r => sn_so M (pc + 1) lv r h k.val (sn_i z)
    | _ => none
  | .istore k => match st with
    | .inl z :: r => sn_so M (pc + 2) lv r h k (sn_i z)
    | _ => none
  | .astore_n k => match st with
    | .inr (.inl (some z)) :: r => sn_so M (pc + 1) lv r h k.val (sn_r z)
    | _ => none
  | .astore k => match st with
    | .inr (.inl (some z)) :: r => sn_so M (pc + 2) lv r h k (sn_r z)
    | _ => none
  | .lstore_n k => match st with
    | .inr (.inr (.inl z)) :: r => sn_so2 M (pc + 1) lv r h k.val (sn_l z)
    | _ => none
  | .lstore k => match st with
    | .inr (.inr (.inl z)) :: r => sn_so2 M (pc + 2) lv r h k (sn_l z)
    | _ => none
  | .iinc k n => match lv[k]? with
    | some (.inl z) => sn_so M (pc + 3) lv st h k (sn_i (sn_wr (z + n)))
    | _ => none
  | .iadd => match st with
    | .inl y :: .inl x :: r => some (.inl (pc + 1, lv, sn_i (sn_wr (x + y)) :: r, h))
    | _ => none
  | .isub => match st with
    | .inl y :: .inl x :: r => some (.inl (pc + 1, lv, sn_i (sn_wr (x - y)) :: r, h))
    | _ => none
  | .imul => match st with
    | .inl y :: .inl x :: r => some (.inl (pc + 1, lv, sn_i (sn_wr (x * y)) :: r, h))
    | _ => none
  | .idiv => match st with
    | .inl y :: .inl x :: r => if y = 0 then none else some (.inl (pc + 1, lv, sn_i (sn_dv x y) :: r, h))
    | _ => none
  | .irem => match st with
    | .inl y :: .inl x :: r => if y = 0 then none else some (.inl (pc + 1, lv, sn_i (sn_rm x y) :: r, h))
    | _ => none
  | .iand => match st with
    | .inl y :: .inl x :: r => some (.inl (pc + 1, lv, sn_i (sn_an x y) :: r, h))
    | _ => none
  | .ishr => match st with
    | .inl y :: .inl x :: r => some (.inl (pc + 1, lv, sn_i (sn_sh x y) :: r, h))
    | _ => none
  | .i2l => match st with
    | .inl x :: r => some (.inl (pc + 1, lv, sn_l x :: r, h))
    | _ => none
  | .ladd => match st with
    | .inr (.inr (.inl y)) :: .inr (.inr (.inl x)) :: r => some (.inl (pc + 1, lv, sn_l (sn_wl (x + y)) :: r, h))
    | _ => none
  | .lmul => match st with
    | .inr (.inr (.inl y)) :: .inr (.inr (.inl x)) :: r => some (.inl (pc + 1, lv, sn_l (sn_wl (x * y)) :: r, h))
    | _ => none
  | .lcmp => match st with
    | .inr (.inr (.inl y)) :: .inr (.inr (.inl x)) :: r => some (.inl (pc + 1, lv, sn_i (sn_lc x y) :: r, h))
    | _ => none
  | .i2d => match st with
    | .inl x :: r => some (.inl (pc + 1, lv, sn_d (FP.i2d (Int32.ofInt x)) :: r, h))
    | _ => none
  | .ddiv => match st with
    | .inr (.inr (.inr (.inl y))) :: .inr (.inr (.inr (.inl x))) :: r => if decide (FP.ddiv x y &&& 0x7fffffffffffffff ≤ 0x7ff0000000000000) then some (.inl (pc + 1, lv, sn_d (FP.ddiv x y) :: r, h)) else none
    | _ => none
  | .dcmp op => match st with
    | .inr (.inr (.inr (.inl y))) :: .inr (.inr (.inr (.inl x))) :: r => some (.inl (pc + 1, lv, sn_i (Op.cmpValue (FP.dcmp x y) op).toInt :: r, h))
    | _ => none
  | .dup => match st with
    | v :: r => if sn_isN v then some (.inl (pc + 1, lv, v :: v :: r, h)) else none
    | _ => none
  | .dup2 => match st with
    | v :: w :: r => if sn_isN v && sn_isN w then some (.inl (pc + 1, lv, v :: w :: v :: w :: r, h)) else none
    | _ => none
  | .pop => match st with
    | v :: r => if sn_isN v then some (.inl (pc + 1, lv, r, h)) else none
    | _ => none
  | .goto off => sn_goto pc off lv st h
  | .ifCond c off => match st with
    | .inl x :: r => if 0 ≤ (pc : Int) + off then some (.inl (if sn_cmp c x 0 then (((pc : Int) + off).toNat, lv, r, h) else (pc + 3, lv, r, h))) else none
    | _ => none
  | .if_icmp c off => match st with
    | .inl y :: .inl x :: r => if 0 ≤ (pc : Int) + off then some (.inl (if sn_cmp c x y then (((pc : Int) + off).toNat, lv, r, h) else (pc + 3, lv, r, h))) else none
    | _ => none
  | .tableswitch dflt lo hi offs => match st with
    | .inl x :: r => if x < lo ∨ hi < x then sn_goto pc dflt lv r h else match offs[(x - lo).toNat]? with
      | some off => sn_goto pc off lv r h
      | none => none
    | _ => none
  | .getfield i => match st, sn_pf (sn_oc M) i with
    | .inr (.inl (some p)) :: r, some (ci, k) => if decide (2 ≤ p) && decide (p < h.1) && decide ((h.2.2.1 p).1 = ci) then some (.inl (pc + 3, lv, h.2.2.2 p k :: r, h)) else none
    | _, _ => none
  | .putfield i => match st, sn_pf (sn_oc M) i with
    | v :: .inr (.inl (some p)) :: r, some (ci, k) =>
      if decide (2 ≤ p) && decide (p < h.1) && decide ((h.2.2.1 p).1 = ci) && sn_fits (sn_ft ci k) v && (!sn_ff ci k || (sn_in M && decide (sn_oc M = ci))) then some (.inl (pc + 3, lv, r, (h.1, h.2.1, h.2.2.1, sn_w h.2.2.2 p k v))) else none
    | _, _ => none
  | .getstatic i => if decide (sn_oc M = 9) && decide (i = 458) then some (.inl (pc + 3, lv, sn_r 1 :: st, h)) else none
  | .iaload => match st with
    | .inl i :: .inr (.inl (some p)) :: r => if sn_idx h p i 100 then some (.inl (pc + 1, lv, h.2.2.2 p i.toNat :: r, h)) else none
    | _ => none
  | .baload => match st with
    | .inl i :: .inr (.inl (some p)) :: r => if sn_idx h p i 101 then some (.inl (pc + 1, lv, h.2.2.2 p i.toNat :: r, h)) else none
    | _ => none
  | .aaload => match st with
    | .inl i :: .inr (.inl (some p)) :: r => if sn_idx h p i 102 then some (.inl (pc + 1, lv, h.2.2.2 p i.toNat :: r, h)) else none
    | _ => none
  | .iastore => match st with
    | .inl z :: .inl i :: .inr (.inl (some p)) :: r => if sn_idx h p i 100 && decide (2 ≤ p) then some (.inl (pc + 1, lv, r, (h.1, h.2.1, h.2.2.1, sn_w h.2.2.2 p i.toNat (sn_i z)))) else none
    | _ => none
  | .bastore => match st with
    | .inl z :: .inl i :: .inr (.inl (some p)) :: r => if sn_idx h p i 101 && decide (2 ≤ p) && (decide (z = 0) || decide (z = 1)) then some (.inl (pc + 1, lv, r, (h.1, h.2.1, h.2.2.1, sn_w h.2.2.2 p i.toNat (sn_i z)))) else none
    | _ => none
  | .arraylength => match st with
    | .inr (.inl (some p)) :: r => if decide (p < h.1) && (decide ((h.2.2.1 p).1 = 100) || decide ((h.2.2.1 p).1 = 101)) then some (.inl (pc + 1, lv, sn_i ((h.2.2.1 p).2 : Int) :: r, h)) else none
    | _ => none
  | .newarray ty => match st with
    | .inl z :: r => if decide (0 ≤ z) && decide (z ≤ 100000) then (match ty with
      | .int => some (.inl (pc + 2, lv, sn_r h.1 :: r, sn_pu h 100 z.toNat (fun _ => sn_i 0)))
      | .boolean => some (.inl (pc + 2, lv, sn_r h.1 :: r, sn_pu h 101 z.toNat (fun _ => sn_i 0)))
      | _ => none) else none
    | _ => none
  | .multianewarray i n => match st with
    | .inl b :: .inl a :: r => if decide (n = 2) && decide (i = 9) && decide (sn_oc M ∈ [0, 1, 2, 4]) && decide (0 ≤ a) && decide (a ≤ 1000) && decide (0 ≤ b) && decide (b ≤ 1000) then some (.inl (pc + 4, lv, sn_r h.1 :: r, sn_pm h a.toNat b.toNat)) else none
    | _ => none
  | .new i => match sn_pn (sn_oc M) i with
    | some ci => some (.inl (pc + 3, lv, sn_r h.1 :: st, sn_pu h ci (sn_nf ci) (fun k => if sn_ft ci k = 2 then sn_n else sn_i 0)))
    | none => none
  | .invokevirtual i => match sn_pv (sn_oc M) i with
    | some (j, a) => match st.drop a with
      | .inr (.inl (some p)) :: _ => if decide (2 ≤ p) && decide (p < h.1) && decide ((h.2.2.1 p).1 = sn_oc j) then sn_call M j (a + 1) (pc + 3) lv st h else none
      | _ => none
    | none => none
  | .invokestatic i => match sn_px (sn_oc M) i with
    | some 0 => match st with
      | .inl x :: r => if decide (1 ≤ sn_fr M) && decide (21 ≤ sn_lo M) && decide (r.length ≤ 4) then some (.inl (pc + 3, lv, sn_i (sn_wr (if 0 ≤ x then x else 0 - x)) :: r, h)) else none
      | _ => none
    | some 1 => match st with
      | .inl y :: .inl x :: r => if decide (1 ≤ sn_fr M) && decide (21 ≤ sn_lo M) && decide (r.length ≤ 4) then some (.inl (pc + 3, lv, sn_i (if x < y then y else x) :: r, h)) else none
      | _ => none
    | some _ => match st with
      | .inl y :: .inl x :: r => if decide (1 ≤ sn_fr M) && decide (21 ≤ sn_lo M) && decide (r.length ≤ 4) then some (.inl (pc + 3, lv, sn_i (if y < x then y else x) :: r, h)) else none
      | _ => none
    | none => match sn_ps (sn_oc M) i with
      | some (j, a) => sn_call M j a (pc + 3) lv st h
      | none => none
  | .invokespecial i => match sn_pc (sn_oc M) i with
    | some (200, _) => match st with
      | .inr (.inl (some p)) :: r => if decide (2 ≤ p) && decide (p < h.1) && decide (1 ≤ sn_fr M) && decide (20 ≤ sn_lo M) && decide (r.length ≤ 4) then some (.inl (pc + 3, lv, r, h)) else none
      | _ => none
    | some (j, a) => match st.drop a with
      | .inr (.inl (some p)) :: _ => if decide (2 ≤ p) && decide (p < h.1) then sn_call M j (a + 1) (pc + 3) lv st h else none
      | _ => none
    | none => none
  | .ireturn => match st with
    | [v] => if sn_rets (sn_rk M) v then some (.inr (.inl (some v, h))) else none
    | _ => none
  | .lreturn => match st with
    | [.inr (.inr (.inl z))] => if sn_rk M = 2 then some (.inr (.inl (some (sn_l z), h))) else none
    | _ => none
  | .dreturn => match st with
    | [.inr (.inr (.inr (.inl z)))] => if sn_rk M = 3 then some (.inr (.inl (some (sn_d z), h))) else none
    | _ => none
  | .return_ => match st with
    | [] => if sn_rk M = 4 then some (.inr (.inl (none, h))) else none
    | _ => none
  | _ => none
/-- an instruction's length, where it matters -/
def sn_len (ins : Instr) : Nat := match ins with
  | .bipush _ => 2
  | .ldc _ => 2
  | .iload _ => 2
  | .aload _ => 2
  | .lload _ => 2
  | .istore _ => 2
  | .astore _ => 2
  | .lstore _ => 2
  | .newarray _ => 2
  | .sipush _ => 3
  | .ldc2_w _ => 3
  | .iinc _ _ => 3
  | .goto _ => 3
  | .ifCond _ _ => 3
  | .if_icmp _ _ => 3
  | .getfield _ => 3
  | .putfield _ => 3
  | .getstatic _ => 3
  | .new _ => 3
  | .invokevirtual _ => 3
  | .invokestatic _ => 3
  | .invokespecial _ => 3
  | .multianewarray _ _ => 4
  | .tableswitch _ _ _ _ => 0
  | _ => 1
def sn_go (M pc : Nat) (lv st : List sn_V) (h : sn_H) : Option sn_O := match decode (sn_bc M) pc with
  | .ok (ins, len) => if decide (len = sn_len ins) || decide (sn_len ins = 0) then sn_do M pc ins lv st h else none
  | .error _ => none
def sn_ent (j : Nat) (as : List sn_V) : List sn_V := sn_lay as ++ List.replicate (sn_ml j - (sn_lay as).length) sn_u
/-- has(m, song), where the land is one but has no song in: an exception is made, thrown, caught -/
def sn_hs (as : List sn_V) (h : sn_H) : Option (Option sn_V × sn_H) := match as with
  | [.inr (.inl (some p)), .inl z] => match h.2.2.2 p 1, h.2.2.2 p 2 with
    | .inr (.inl (some pl)), .inr (.inl (some ps)) => match h.2.2.2 pl 0, h.2.2.2 ps 2 with
      | .inl n, .inr (.inl (some pi)) =>
        if decide (2 ≤ p) && decide (p < h.1) && decide ((h.2.2.1 p).1 = 9) && decide (2 ≤ pl) && decide (pl < h.1) && decide ((h.2.2.1 pl).1 = 3) && decide (2 ≤ ps) && decide (ps < h.1) && decide ((h.2.2.1 ps).1 = 7) && decide (2 ≤ pi) && sn_idx h pi z 101 && decide (z < n) && decide (z < 8) && decide (h.2.2.2 pi z.toNat = sn_i 0) then
          some (some (sn_i 0), sn_pu h 103 6 (fun _ => sn_n)) else none
      | _, _ => none
    | _, _ => none
  | _ => none
/-- whole runs, fuelled -/
def sn_ex : Nat → Nat → Nat → List sn_V → List sn_V → sn_H → Option (Option sn_V × sn_H)
  | 0, _, _, _, _, _ => none
  | f + 1, M, pc, lv, st, h => match sn_go M pc lv st h with
    | none => none
    | some (.inl c) => sn_ex f M c.1 c.2.1 c.2.2.1 c.2.2.2
    | some (.inr (.inl o)) => some o
    | some (.inr (.inr c)) => match (if c.1 = 88 then sn_hs c.2.1 c.2.2.2.2.2 else none) with
      | some o => sn_ex f M c.2.2.1 c.2.2.2.1 (o.1.toList ++ c.2.2.2.2.1) o.2
      | none => match sn_ex f c.1 0 (sn_ent c.1 c.2.1) [] c.2.2.2.2.2 with
        | some o => sn_ex f M c.2.2.1 c.2.2.2.1 (o.1.toList ++ c.2.2.2.2.1) o.2
        | none => none
