set_option maxRecDepth 20000 in
theorem ggX0_init_X3_init : GoodIn wsX0_init wsX3_init := goodIn_r _ [11, 12, 2, 3] (by decide +kernel) (by decide +kernel)
set_option maxRecDepth 20000 in
theorem gX0_init_X3_init_n9 : GoodIn wsX0_init (wsX3_init) := ggX0_init_X3_init
set_option maxRecDepth 20000 in
theorem ggX0_sitDown_X3_sit : GoodIn wsX0_sitDown wsX3_sit := goodIn_r _ [7, 8, 9, 10, 21, 22, 23] (by decide +kernel) (by decide +kernel)
set_option maxRecDepth 20000 in
theorem gX0_sitDown_X3_sit : GoodIn wsX0_sitDown (wsV RX0 23 RX3 yX3_sit wsX3_sit) := goodIn_app (goodIn_of _ (by decide +kernel)) ggX0_sitDown_X3_sit
set_option maxRecDepth 20000 in
theorem ggX0_copy_X3_copy : GoodIn wsX0_copy wsX3_copy := goodIn_r _ [15, 16, 17, 18, 29, 30, 31] (by decide +kernel) (by decide +kernel)
set_option maxRecDepth 20000 in
theorem gX0_copy_X3_copy : GoodIn wsX0_copy (wsV RX0 48 RX3 yX3_copy wsX3_copy) := goodIn_app (goodIn_of _ (by decide +kernel)) ggX0_copy_X3_copy
set_option maxRecDepth 20000 in
theorem ggX0_mover_X0_sideAt : GoodIn wsX0_mover wsX0_sideAt := goodIn_r _ [6, 7, 8, 9, 10, 11, 12, 13, 14, 15, 16, 17, 18] (by decide +kernel) (by decide +kernel)
set_option maxRecDepth 20000 in
theorem gX0_mover_X0_sideAt : GoodIn wsX0_mover (wsV RX0 55 RX0 yX0_sideAt wsX0_sideAt) := goodIn_app (goodIn_of _ (by decide +kernel)) ggX0_mover_X0_sideAt
set_option maxRecDepth 20000 in
theorem ggX0_move_X0_mover : GoodIn wsX0_move wsX0_mover := goodIn_r _ [10, 3, 11, 12, 13, 9, 14, 15, 16, 20, 21, 22, 23, 24, 25, 26, 27, 28, 29] (by decide +kernel) (by decide +kernel)
set_option maxRecDepth 20000 in
theorem gX0_move_X0_mover : GoodIn wsX0_move (wsV RX0 59 RX0 yX0_mover wsX0_mover) := goodIn_app (goodIn_of _ (by decide +kernel)) ggX0_move_X0_mover
set_option maxRecDepth 20000 in
theorem ggX0_tick_X0_mover : GoodIn wsX0_tick wsX0_mover := goodIn_r _ [8, 9, 10, 11, 12, 7, 13, 14, 15, 16, 17, 18, 19, 20, 21, 22, 23, 24, 25] (by decide +kernel) (by decide +kernel)
set_option maxRecDepth 20000 in
theorem gX0_tick_X0_mover : GoodIn wsX0_tick (wsV RX0 59 RX0 yX0_mover wsX0_mover) := goodIn_app (goodIn_of _ (by decide +kernel)) ggX0_tick_X0_mover
set_option maxRecDepth 20000 in
theorem ggX0_missingFor_X0_mover : GoodIn wsX0_missingFor wsX0_mover := goodIn_r _ [12, 13, 14, 15, 16, 11, 17, 18, 19, 20, 21, 22, 23, 24, 25, 26, 27, 28, 29] (by decide +kernel) (by decide +kernel)
set_option maxRecDepth 20000 in
theorem gX0_missingFor_X0_mover : GoodIn wsX0_missingFor (wsV RX0 59 RX0 yX0_mover wsX0_mover) := goodIn_app (goodIn_of _ (by decide +kernel)) ggX0_missingFor_X0_mover
set_option maxRecDepth 20000 in
theorem ggX3_giveTo_X3_giveUpTo : GoodIn wsX3_giveTo wsX3_giveUpTo := goodIn_r _ [6, 1, 7, 8, 9, 10, 11, 12, 13] (by decide +kernel) (by decide +kernel)
set_option maxRecDepth 20000 in
theorem gX3_giveTo_X3_giveUpTo : GoodIn wsX3_giveTo (wsV RX3 25 RX3 yX3_giveUpTo wsX3_giveUpTo) := goodIn_app (goodIn_of _ (by decide +kernel)) ggX3_giveTo_X3_giveUpTo
set_option maxRecDepth 20000 in
theorem ggX4_init_X2_init : GoodIn wsX4_init wsX2_init := goodIn_r _ [21, 22, 2, 3] (by decide +kernel) (by decide +kernel)
set_option maxRecDepth 20000 in
theorem gX4_init_X2_init_n40 : GoodIn wsX4_init (wsX2_init) := ggX4_init_X2_init
set_option maxRecDepth 20000 in
theorem ggX4_init_X1_init : GoodIn wsX4_init wsX1_init := goodIn_r _ [24, 25, 2, 3, 26, 58, 59, 60, 61, 62] (by decide +kernel) (by decide +kernel)
set_option maxRecDepth 20000 in
theorem gX4_init_X1_init_n41 : GoodIn wsX4_init (wsX1_init) := ggX4_init_X1_init
set_option maxRecDepth 20000 in
theorem ggX4_init_X0_init : GoodIn wsX4_init wsX0_init := goodIn_r _ [28, 29, 2, 3, 30, 31, 32, 33, 34, 35, 36, 37, 38, 73, 74, 75, 63, 64, 65, 66, 67, 68, 69, 70, 71, 72] (by decide +kernel) (by decide +kernel)
set_option maxRecDepth 20000 in
theorem gX4_init_X0_init_n42 : GoodIn wsX4_init (wsX0_init) := ggX4_init_X0_init
set_option maxRecDepth 20000 in
theorem ggX4_copy_X4_playerAt : GoodIn wsX4_copy wsX4_playerAt := goodIn_ca (goodIn_r _ [12, 13, 14, 5, 15, 69, 70, 71, 72, 73, 74, 75, 76, 77, 78, 79, 80, 81, 82] (by decide +kernel) (by decide +kernel)) (goodIn_sub (fun _ h => List.mem_cons_of_mem _ (List.mem_append_right _ h)) (by decide +kernel))
set_option maxRecDepth 20000 in
theorem gX4_copy_X4_playerAt : GoodIn wsX4_copy (wsV RX4 61 RX4 yX4_playerAt wsX4_playerAt) := goodIn_app (goodIn_of _ (by decide +kernel)) ggX4_copy_X4_playerAt
set_option maxRecDepth 20000 in
theorem ggX4_copy_X2_copy : GoodIn wsX4_copy wsX2_copy := goodIn_r _ [20, 21, 22, 23, 24, 25, 83, 84, 85, 86, 87] (by decide +kernel) (by decide +kernel)
set_option maxRecDepth 20000 in
theorem gX4_copy_X2_copy : GoodIn wsX4_copy (wsV RX4 65 RX2 yX2_copy wsX2_copy) := goodIn_app (goodIn_of _ (by decide +kernel)) ggX4_copy_X2_copy
set_option maxRecDepth 20000 in
theorem ggX4_copy_X4_loanAt : GoodIn wsX4_copy wsX4_loanAt := goodIn_ca (goodIn_r _ [29, 13, 14, 6, 30, 69, 70, 71, 72, 73, 74, 75, 76, 77, 78, 79, 80, 81, 82] (by decide +kernel) (by decide +kernel)) (goodIn_sub (fun _ h => List.mem_cons_of_mem _ (List.mem_append_right _ h)) (by decide +kernel))
set_option maxRecDepth 20000 in
theorem gX4_copy_X4_loanAt : GoodIn wsX4_copy (wsV RX4 69 RX4 yX4_loanAt wsX4_loanAt) := goodIn_app (goodIn_of _ (by decide +kernel)) ggX4_copy_X4_loanAt
set_option maxRecDepth 20000 in
theorem ggX4_copy_X1_copy : GoodIn wsX4_copy wsX1_copy := goodIn_r _ [35, 36, 37, 38, 39, 40, 88, 89, 90, 91, 92] (by decide +kernel) (by decide +kernel)
set_option maxRecDepth 20000 in
theorem gX4_copy_X1_copy : GoodIn wsX4_copy (wsV RX4 73 RX1 yX1_copy wsX1_copy) := goodIn_app (goodIn_of _ (by decide +kernel)) ggX4_copy_X1_copy
set_option maxRecDepth 20000 in
theorem ggX4_copy_X4_gameAt : GoodIn wsX4_copy wsX4_gameAt := goodIn_ca (goodIn_r _ [44, 13, 14, 7, 45, 69, 70, 71, 72, 73, 74, 75, 76, 77, 78, 79, 80, 81, 82] (by decide +kernel) (by decide +kernel)) (goodIn_sub (fun _ h => List.mem_cons_of_mem _ (List.mem_append_right _ h)) (by decide +kernel))
set_option maxRecDepth 20000 in
theorem gX4_copy_X4_gameAt : GoodIn wsX4_copy (wsV RX4 76 RX4 yX4_gameAt wsX4_gameAt) := goodIn_app (goodIn_of _ (by decide +kernel)) ggX4_copy_X4_gameAt
set_option maxRecDepth 20000 in
theorem ggX4_copy_X0_copy : GoodIn wsX4_copy wsX0_copy := goodIn_r _ [50, 51, 52, 53, 54, 55, 56, 57, 58, 59, 60, 61, 62, 63, 64, 65, 66, 67, 68, 93, 94, 95, 96, 97, 98, 99, 100, 101, 102, 103, 104, 105] (by decide +kernel) (by decide +kernel)
set_option maxRecDepth 20000 in
theorem gX4_copy_X0_copy : GoodIn wsX4_copy (wsV RX4 80 RX0 yX0_copy wsX0_copy) := goodIn_app (goodIn_of _ (by decide +kernel)) ggX4_copy_X0_copy
set_option maxRecDepth 20000 in
theorem ggX4_currentPrice_X4_secondsOut : GoodIn wsX4_currentPrice wsX4_secondsOut := goodIn_r _ [9, 10, 11, 12, 13, 14, 15, 16, 17, 18, 19, 20, 21, 22, 23, 24, 25] (by decide +kernel) (by decide +kernel)
set_option maxRecDepth 20000 in
theorem gX4_currentPrice_X4_secondsOut : GoodIn wsX4_currentPrice (wsV RX4 94 RX4 yX4_secondsOut wsX4_secondsOut) := goodIn_app (goodIn_of _ (by decide +kernel)) ggX4_currentPrice_X4_secondsOut
set_option maxRecDepth 20000 in
theorem ggX4_gamesRunning_X0_runs : GoodIn wsX4_gamesRunning wsX0_runs := goodIn_r _ [6, 7, 22, 23, 24, 25, 26, 27, 28, 29, 30, 31] (by decide +kernel) (by decide +kernel)
set_option maxRecDepth 20000 in
theorem gX4_gamesRunning_X0_runs : GoodIn wsX4_gamesRunning (wsV RX4 107 RX0 yX0_runs wsX0_runs) := goodIn_app (goodIn_of _ (by decide +kernel)) ggX4_gamesRunning_X0_runs
set_option maxRecDepth 20000 in
theorem ggX4_gamesRunningOf_X0_runs : GoodIn wsX4_gamesRunningOf wsX0_runs := goodIn_r _ [6, 7, 29, 30, 31, 32, 33, 34, 35, 36, 37, 38] (by decide +kernel) (by decide +kernel)
set_option maxRecDepth 20000 in
theorem gX4_gamesRunningOf_X0_runs : GoodIn wsX4_gamesRunningOf (wsV RX4 107 RX0 yX0_runs wsX0_runs) := goodIn_app (goodIn_of _ (by decide +kernel)) ggX4_gamesRunningOf_X0_runs
set_option maxRecDepth 20000 in
theorem ggX4_gamesRunningOf_X0_isPlayedBy : GoodIn wsX4_gamesRunningOf wsX0_isPlayedBy := goodIn_r _ [11, 12, 13, 14, 29, 30, 31, 32, 33, 34, 35, 36, 37, 38, 39, 40, 41] (by decide +kernel) (by decide +kernel)
set_option maxRecDepth 20000 in
theorem gX4_gamesRunningOf_X0_isPlayedBy : GoodIn wsX4_gamesRunningOf (wsV RX4 111 RX0 yX0_isPlayedBy wsX0_isPlayedBy) := goodIn_app (goodIn_of _ (by decide +kernel)) ggX4_gamesRunningOf_X0_isPlayedBy
set_option maxRecDepth 20000 in
theorem ggX4_owedBy_X4_isOwed : GoodIn wsX4_owedBy wsX4_isOwed := goodIn_r _ [8, 9, 24, 25, 26, 27, 28] (by decide +kernel) (by decide +kernel)
set_option maxRecDepth 20000 in
theorem gX4_owedBy_X4_isOwed : GoodIn wsX4_owedBy (wsV RX4 121 RX4 yX4_isOwed wsX4_isOwed) := goodIn_app (goodIn_of _ (by decide +kernel)) ggX4_owedBy_X4_isOwed
set_option maxRecDepth 20000 in
theorem ggX4_playersAheadOf_X4_playerAt : GoodIn wsX4_playersAheadOf wsX4_playerAt := goodIn_ca (goodIn_r _ [6, 7, 8, 1, 9, 18, 19, 20, 21, 22, 23, 24, 25, 26, 27, 28, 29, 30, 31] (by decide +kernel) (by decide +kernel)) (goodIn_sub (fun _ h => List.mem_cons_of_mem _ (List.mem_append_right _ h)) (by decide +kernel))
set_option maxRecDepth 20000 in
theorem gX4_playersAheadOf_X4_playerAt : GoodIn wsX4_playersAheadOf (wsV RX4 61 RX4 yX4_playerAt wsX4_playerAt) := goodIn_app (goodIn_of _ (by decide +kernel)) ggX4_playersAheadOf_X4_playerAt
set_option maxRecDepth 20000 in
theorem ggX4_playersAheadOf_X2_leads : GoodIn wsX4_playersAheadOf wsX2_leads := goodIn_r _ [14, 15, 16, 17, 32, 33, 34, 35, 36] (by decide +kernel) (by decide +kernel)
set_option maxRecDepth 20000 in
theorem gX4_playersAheadOf_X2_leads : GoodIn wsX4_playersAheadOf (wsV RX4 128 RX2 yX2_leads wsX2_leads) := goodIn_app (goodIn_of _ (by decide +kernel)) ggX4_playersAheadOf_X2_leads
set_option maxRecDepth 20000 in
theorem ggX4_stop_X4_playerAt : GoodIn wsX4_stop wsX4_playerAt := goodIn_ca (goodIn_r _ [11, 12, 13, 14, 15, 34, 35, 36, 37, 38, 39, 40, 41, 42, 43, 44, 45, 46, 47] (by decide +kernel) (by decide +kernel)) (goodIn_sub (fun _ h => List.mem_cons_of_mem _ (List.mem_append_right _ h)) (by decide +kernel))
set_option maxRecDepth 20000 in
theorem gX4_stop_X4_playerAt : GoodIn wsX4_stop (wsV RX4 61 RX4 yX4_playerAt wsX4_playerAt) := goodIn_app (goodIn_of _ (by decide +kernel)) ggX4_stop_X4_playerAt
set_option maxRecDepth 20000 in
theorem ggX4_awardTo_X0_sideAt : GoodIn wsX4_awardTo wsX0_sideAt := goodIn_r _ [12, 13, 14, 27, 28, 29, 30, 31, 32, 33, 34, 35, 36] (by decide +kernel) (by decide +kernel)
set_option maxRecDepth 20000 in
theorem gX4_awardTo_X0_sideAt : GoodIn wsX4_awardTo (wsV RX4 147 RX0 yX0_sideAt wsX0_sideAt) := goodIn_app (goodIn_of _ (by decide +kernel)) ggX4_awardTo_X0_sideAt
set_option maxRecDepth 20000 in
theorem ggX4_awardTo_X4_playerAt : GoodIn wsX4_awardTo wsX4_playerAt := goodIn_ca (goodIn_r _ [19, 20, 21, 22, 23, 42, 43, 44, 45, 46, 47, 48, 49, 50, 51, 52, 53, 54, 55] (by decide +kernel) (by decide +kernel)) (goodIn_sub (fun _ h => List.mem_cons_of_mem _ (List.mem_append_right _ h)) (by decide +kernel))
set_option maxRecDepth 20000 in
theorem gX4_awardTo_X4_playerAt : GoodIn wsX4_awardTo (wsV RX4 61 RX4 yX4_playerAt wsX4_playerAt) := goodIn_app (goodIn_of _ (by decide +kernel)) ggX4_awardTo_X4_playerAt
set_option maxRecDepth 20000 in
theorem ggX4_letGoBy_X4_forgetWhatPassed : GoodIn wsX4_letGoBy wsX4_forgetWhatPassed := goodIn_r _ [6, 7, 8, 9, 10, 139, 140, 141, 142, 143, 144, 145, 146, 147, 148, 149, 150, 151, 152] (by decide +kernel) (by decide +kernel)
set_option maxRecDepth 20000 in
theorem gX4_letGoBy_X4_forgetWhatPassed : GoodIn wsX4_letGoBy (wsV RX4 157 RX4 yX4_forgetWhatPassed wsX4_forgetWhatPassed) := goodIn_app (goodIn_of _ (by decide +kernel)) ggX4_letGoBy_X4_forgetWhatPassed
set_option maxRecDepth 20000 in
theorem ggX4_letGoBy_X4_runClocks : GoodIn wsX4_letGoBy wsX4_runClocks := goodIn_ca (goodIn_r _ [14, 15, 16, 17, 18, 19, 20, 21, 22, 23, 24, 25, 26, 27, 28, 29, 30, 31, 32, 33, 34, 35, 36, 37, 38, 39, 40, 41, 42, 43, 5, 44, 7, 45, 9, 1, 10, 46, 47, 48, 49, 50, 51, 52, 53, 54, 55, 56, 57, 58, 59, 60, 61, 62, 63, 64, 65, 139, 140, 141, 142, 143, 144, 145, 146, 147, 148, 149, 150, 151, 152, 153, 154, 155, 156, 157, 158, 159, 160, 161, 162, 163, 164, 165, 166, 167, 168, 169, 170] (by decide +kernel) (by decide +kernel)) (goodIn_sub (fun _ h => List.mem_cons_of_mem _ (List.mem_append_right _ h)) (by decide +kernel))
set_option maxRecDepth 20000 in
theorem gX4_letGoBy_X4_runClocks : GoodIn wsX4_letGoBy (wsV RX4 160 RX4 yX4_runClocks wsX4_runClocks) := goodIn_app (goodIn_of _ (by decide +kernel)) ggX4_letGoBy_X4_runClocks
set_option maxRecDepth 20000 in
theorem ggX4_letGoBy_X4_addInterest : GoodIn wsX4_letGoBy wsX4_addInterest := goodIn_r _ [69, 70, 71, 72, 73, 74, 75, 76, 77, 78, 79, 80, 81, 82, 83, 139, 140, 141, 142, 143, 144, 145, 146, 147, 148, 149, 150, 151, 152, 171, 172, 173, 174, 175] (by decide +kernel) (by decide +kernel)
set_option maxRecDepth 20000 in
theorem gX4_letGoBy_X4_addInterest : GoodIn wsX4_letGoBy (wsV RX4 163 RX4 yX4_addInterest wsX4_addInterest) := goodIn_app (goodIn_of _ (by decide +kernel)) ggX4_letGoBy_X4_addInterest
set_option maxRecDepth 20000 in
theorem ggX4_letGoBy_X4_collectDueLoans : GoodIn wsX4_letGoBy wsX4_collectDueLoans := goodIn_ca (goodIn_r _ [87, 70, 71, 88, 1, 89, 90, 91, 92, 5, 93, 94, 95, 81, 82, 83, 96, 58, 59, 60, 61, 62, 63, 64, 65, 97, 98, 99, 100, 101, 102, 103, 104, 105, 15, 106, 107, 17, 18, 19, 20, 21, 22, 108, 109, 110, 111, 50, 112, 113, 114, 115, 116, 117, 118, 119, 120, 121, 122, 8, 139, 140, 141, 142, 143, 144, 145, 146, 147, 148, 149, 150, 151, 152, 171, 172, 173, 174, 175, 166, 167, 168, 169, 170, 153, 154, 155, 156, 157, 158, 159, 160, 161, 162, 163, 164, 165] (by decide +kernel) (by decide +kernel)) (goodIn_sub (fun _ h => List.mem_cons_of_mem _ (List.mem_append_right _ h)) (by decide +kernel))
set_option maxRecDepth 20000 in
theorem gX4_letGoBy_X4_collectDueLoans : GoodIn wsX4_letGoBy (wsV RX4 166 RX4 yX4_collectDueLoans wsX4_collectDueLoans) := goodIn_app (goodIn_of _ (by decide +kernel)) ggX4_letGoBy_X4_collectDueLoans
set_option maxRecDepth 20000 in
theorem ggX4_letGoBy_X4_lookForThieves : GoodIn wsX4_letGoBy wsX4_lookForThieves := goodIn_ca (goodIn_r _ [126, 15, 106, 107, 17, 18, 19, 20, 21, 22, 127, 128, 129, 5, 130, 131, 50, 132, 133, 134, 135, 136, 115, 137, 117, 138, 113, 114, 116, 118, 81, 82, 83, 58, 59, 60, 61, 62, 63, 64, 65, 139, 140, 141, 142, 143, 144, 145, 146, 147, 148, 149, 150, 151, 152, 153, 154, 155, 156, 157, 158, 159, 160, 161, 162, 163, 164, 165, 166, 167, 168, 169, 170] (by decide +kernel) (by decide +kernel)) (goodIn_sub (fun _ h => List.mem_cons_of_mem _ (List.mem_append_right _ h)) (by decide +kernel))
set_option maxRecDepth 20000 in
theorem gX4_letGoBy_X4_lookForThieves : GoodIn wsX4_letGoBy (wsV RX4 169 RX4 yX4_lookForThieves wsX4_lookForThieves) := goodIn_app (goodIn_of _ (by decide +kernel)) ggX4_letGoBy_X4_lookForThieves
set_option maxRecDepth 20000 in
theorem ggX4_runClocks_X0_runs : GoodIn wsX4_runClocks wsX0_runs := goodIn_r _ [7, 8, 71, 72, 73, 74, 75, 76, 77, 78, 79, 80] (by decide +kernel) (by decide +kernel)
set_option maxRecDepth 20000 in
theorem gX4_runClocks_X0_runs : GoodIn wsX4_runClocks (wsV RX4 107 RX0 yX0_runs wsX0_runs) := goodIn_app (goodIn_of _ (by decide +kernel)) ggX4_runClocks_X0_runs
set_option maxRecDepth 20000 in
theorem ggX4_runClocks_X0_tick : GoodIn wsX4_runClocks wsX0_tick := goodIn_r _ [12, 13, 14, 15, 16, 17, 18, 6, 19, 20, 21, 22, 23, 24, 25, 26, 71, 72, 73, 74, 75, 76, 77, 78, 79, 80, 81, 82, 83] (by decide +kernel) (by decide +kernel)
set_option maxRecDepth 20000 in
theorem gX4_runClocks_X0_tick : GoodIn wsX4_runClocks (wsV RX4 178 RX0 yX0_tick wsX0_tick) := goodIn_app (goodIn_of _ (by decide +kernel)) ggX4_runClocks_X0_tick
set_option maxRecDepth 20000 in
theorem ggX4_runClocks_X4_noteFall : GoodIn wsX4_runClocks wsX4_noteFall := goodIn_r _ [31, 32, 33, 34, 35, 36, 57, 58, 59, 60, 61, 62, 63, 64, 65, 66, 67, 68, 69, 70, 71, 72, 73, 74, 75, 76, 77, 78, 79, 80] (by decide +kernel) (by decide +kernel)
set_option maxRecDepth 20000 in
theorem gX4_runClocks_X4_noteFall : GoodIn wsX4_runClocks (wsV RX4 181 RX4 yX4_noteFall wsX4_noteFall) := goodIn_app (goodIn_of _ (by decide +kernel)) ggX4_runClocks_X4_noteFall
set_option maxRecDepth 20000 in
theorem ggX4_runClocks_X4_awardTo : GoodIn wsX4_runClocks wsX4_awardTo := goodIn_ca (goodIn_r _ [40, 41, 42, 43, 44, 45, 46, 47, 48, 22, 23, 6, 24, 25, 26, 49, 50, 51, 30, 52, 53, 54, 55, 56, 81, 82, 83, 71, 72, 73, 74, 75, 76, 77, 78, 79, 80, 84, 85, 86, 87, 88, 57, 58, 59, 60, 61, 62, 63, 64, 65, 66, 67, 68, 69, 70] (by decide +kernel) (by decide +kernel)) (goodIn_sub (fun _ h => List.mem_cons_of_mem _ (List.mem_append_right _ h)) (by decide +kernel))
set_option maxRecDepth 20000 in
theorem gX4_runClocks_X4_awardTo : GoodIn wsX4_runClocks (wsV RX4 187 RX4 yX4_awardTo wsX4_awardTo) := goodIn_app (goodIn_of _ (by decide +kernel)) ggX4_runClocks_X4_awardTo
set_option maxRecDepth 20000 in
theorem ggX4_addInterest_X1_addInterest : GoodIn wsX4_addInterest wsX1_addInterest := goodIn_r _ [7, 8, 9, 10, 11, 12, 13, 14, 29, 30, 31, 32, 33] (by decide +kernel) (by decide +kernel)
set_option maxRecDepth 20000 in
theorem gX4_addInterest_X1_addInterest : GoodIn wsX4_addInterest (wsV RX4 194 RX1 yX1_addInterest wsX1_addInterest) := goodIn_app (goodIn_of _ (by decide +kernel)) ggX4_addInterest_X1_addInterest
set_option maxRecDepth 20000 in
theorem ggX4_collectDueLoans_X4_takeFromPocket : GoodIn wsX4_collectDueLoans wsX4_takeFromPocket := goodIn_ca (goodIn_r _ [10, 11, 5, 12, 13, 14, 15, 16, 17, 18, 19, 9, 20, 21, 22, 23, 24, 25, 26, 27, 28, 29, 74, 75, 76, 77, 78, 79, 80, 81, 82, 83, 60, 61, 62, 63, 64, 65, 66, 67, 68, 69, 70, 71, 72, 73] (by decide +kernel) (by decide +kernel)) (goodIn_sub (fun _ h => List.mem_cons_of_mem _ (List.mem_append_right _ h)) (by decide +kernel))
set_option maxRecDepth 20000 in
theorem gX4_collectDueLoans_X4_takeFromPocket : GoodIn wsX4_collectDueLoans (wsV RX4 198 RX4 yX4_takeFromPocket wsX4_takeFromPocket) := goodIn_app (goodIn_of _ (by decide +kernel)) ggX4_collectDueLoans_X4_takeFromPocket
set_option maxRecDepth 20000 in
theorem ggX4_collectDueLoans_X4_takeFromClocks : GoodIn wsX4_collectDueLoans wsX4_takeFromClocks := goodIn_r _ [33, 34, 35, 36, 37, 38, 39, 40, 41, 42, 43, 44, 45, 9, 46, 47, 11, 5, 48, 49, 50, 51, 52, 53, 54, 13, 14, 15, 25, 26, 27, 28, 29, 60, 61, 62, 63, 64, 65, 66, 67, 68, 69, 70, 71, 72, 73, 84, 85, 86, 87, 88, 89, 90, 91, 92, 93, 94, 95, 96, 74, 75, 76, 77, 78] (by decide +kernel) (by decide +kernel)
set_option maxRecDepth 20000 in
theorem gX4_collectDueLoans_X4_takeFromClocks : GoodIn wsX4_collectDueLoans (wsV RX4 202 RX4 yX4_takeFromClocks wsX4_takeFromClocks) := goodIn_app (goodIn_of _ (by decide +kernel)) ggX4_collectDueLoans_X4_takeFromClocks
set_option maxRecDepth 20000 in
theorem ggX4_collectDueLoans_X4_judge : GoodIn wsX4_collectDueLoans wsX4_judge := goodIn_r _ [58, 5, 2, 59, 74, 75, 76, 77, 78, 60, 61, 62, 63, 64, 65, 66, 67, 68, 69, 70, 71, 72, 73] (by decide +kernel) (by decide +kernel)
set_option maxRecDepth 20000 in
theorem gX4_collectDueLoans_X4_judge : GoodIn wsX4_collectDueLoans (wsV RX4 205 RX4 yX4_judge wsX4_judge) := goodIn_app (goodIn_of _ (by decide +kernel)) ggX4_collectDueLoans_X4_judge
set_option maxRecDepth 20000 in
theorem ggX4_takeFromPocket_X4_playerAt : GoodIn wsX4_takeFromPocket wsX4_playerAt := goodIn_ca (goodIn_r _ [12, 13, 14, 15, 16, 32, 33, 34, 35, 36, 37, 38, 39, 40, 41, 42, 43, 44, 45] (by decide +kernel) (by decide +kernel)) (goodIn_sub (fun _ h => List.mem_cons_of_mem _ (List.mem_append_right _ h)) (by decide +kernel))
set_option maxRecDepth 20000 in
theorem gX4_takeFromPocket_X4_playerAt : GoodIn wsX4_takeFromPocket (wsV RX4 61 RX4 yX4_playerAt wsX4_playerAt) := goodIn_app (goodIn_of _ (by decide +kernel)) ggX4_takeFromPocket_X4_playerAt
set_option maxRecDepth 20000 in
theorem ggX4_takeFromPocket_X4_bringBack : GoodIn wsX4_takeFromPocket wsX4_bringBack := goodIn_r _ [20, 2, 21, 22, 23, 24, 25, 26, 32, 33, 34, 35, 36, 37, 38, 39, 40, 41, 42, 43, 44, 45] (by decide +kernel) (by decide +kernel)
set_option maxRecDepth 20000 in
theorem gX4_takeFromPocket_X4_bringBack : GoodIn wsX4_takeFromPocket (wsV RX4 211 RX4 yX4_bringBack wsX4_bringBack) := goodIn_app (goodIn_of _ (by decide +kernel)) ggX4_takeFromPocket_X4_bringBack
set_option maxRecDepth 20000 in
theorem ggX4_takeFromClocks_X0_runs : GoodIn wsX4_takeFromClocks wsX0_runs := goodIn_r _ [8, 9, 47, 48, 49, 50, 51, 52, 53, 54, 55, 56] (by decide +kernel) (by decide +kernel)
set_option maxRecDepth 20000 in
theorem gX4_takeFromClocks_X0_runs : GoodIn wsX4_takeFromClocks (wsV RX4 107 RX0 yX0_runs wsX0_runs) := goodIn_app (goodIn_of _ (by decide +kernel)) ggX4_takeFromClocks_X0_runs
set_option maxRecDepth 20000 in
theorem ggX4_takeFromClocks_X4_takeFromSide : GoodIn wsX4_takeFromClocks wsX4_takeFromSide := goodIn_r _ [14, 15, 16, 17, 18, 19, 20, 21, 22, 23, 24, 25, 26, 27, 28, 29, 30, 13, 31, 32, 57, 58, 59, 60, 61, 62, 63, 64, 33, 34, 35, 36, 37, 38, 39, 40, 41, 42, 43, 44, 45, 46] (by decide +kernel) (by decide +kernel)
set_option maxRecDepth 20000 in
theorem gX4_takeFromClocks_X4_takeFromSide : GoodIn wsX4_takeFromClocks (wsV RX4 215 RX4 yX4_takeFromSide wsX4_takeFromSide) := goodIn_app (goodIn_of _ (by decide +kernel)) ggX4_takeFromClocks_X4_takeFromSide
set_option maxRecDepth 20000 in
theorem ggX4_takeFromSide_X3_giveUpTo : GoodIn wsX4_takeFromSide wsX3_giveUpTo := goodIn_r _ [8, 9, 10, 11, 12, 13, 20, 21, 22] (by decide +kernel) (by decide +kernel)
set_option maxRecDepth 20000 in
theorem gX4_takeFromSide_X3_giveUpTo : GoodIn wsX4_takeFromSide (wsV RX4 219 RX3 yX3_giveUpTo wsX3_giveUpTo) := goodIn_app (goodIn_of _ (by decide +kernel)) ggX4_takeFromSide_X3_giveUpTo
set_option maxRecDepth 20000 in
theorem ggX4_takeFromSide_X4_bringBack : GoodIn wsX4_takeFromSide wsX4_bringBack := goodIn_r _ [18, 3, 19, 23, 24, 25, 26, 27, 28, 29, 30, 31, 32, 33, 34, 35, 36, 37, 38, 39, 40, 41] (by decide +kernel) (by decide +kernel)
set_option maxRecDepth 20000 in
theorem gX4_takeFromSide_X4_bringBack : GoodIn wsX4_takeFromSide (wsV RX4 211 RX4 yX4_bringBack wsX4_bringBack) := goodIn_app (goodIn_of _ (by decide +kernel)) ggX4_takeFromSide_X4_bringBack
set_option maxRecDepth 20000 in
theorem ggX4_lookForThieves_X0_runs : GoodIn wsX4_lookForThieves wsX0_runs := goodIn_r _ [8, 9, 55, 56, 57, 58, 59, 60, 61, 62, 63, 64] (by decide +kernel) (by decide +kernel)
set_option maxRecDepth 20000 in
theorem gX4_lookForThieves_X0_runs : GoodIn wsX4_lookForThieves (wsV RX4 107 RX0 yX0_runs wsX0_runs) := goodIn_app (goodIn_of _ (by decide +kernel)) ggX4_lookForThieves_X0_runs
set_option maxRecDepth 20000 in
theorem ggX4_lookForThieves_X4_inspect : GoodIn wsX4_lookForThieves wsX4_inspect := goodIn_ca (goodIn_r _ [14, 15, 16, 17, 18, 19, 20, 21, 22, 23, 24, 25, 26, 27, 28, 29, 30, 31, 32, 33, 34, 35, 13, 36, 37, 38, 39, 40, 65, 66, 67, 68, 69, 70, 71, 72, 41, 42, 43, 44, 45, 46, 47, 48, 49, 50, 51, 52, 53, 54] (by decide +kernel) (by decide +kernel)) (goodIn_sub (fun _ h => List.mem_cons_of_mem _ (List.mem_append_right _ h)) (by decide +kernel))
set_option maxRecDepth 20000 in
theorem gX4_lookForThieves_X4_inspect : GoodIn wsX4_lookForThieves (wsV RX4 223 RX4 yX4_inspect wsX4_inspect) := goodIn_app (goodIn_of _ (by decide +kernel)) ggX4_lookForThieves_X4_inspect
set_option maxRecDepth 20000 in
theorem ggX4_inspect_X3_giveTo : GoodIn wsX4_inspect wsX3_giveTo := goodIn_r _ [9, 10, 11, 12, 13, 8, 14, 15, 16, 17, 18, 28, 29, 30] (by decide +kernel) (by decide +kernel)
set_option maxRecDepth 20000 in
theorem gX4_inspect_X3_giveTo : GoodIn wsX4_inspect (wsV RX4 230 RX3 yX3_giveTo wsX3_giveTo) := goodIn_app (goodIn_of _ (by decide +kernel)) ggX4_inspect_X3_giveTo
set_option maxRecDepth 20000 in
theorem ggX4_inspect_X4_playerAt : GoodIn wsX4_inspect wsX4_playerAt := goodIn_ca (goodIn_r _ [23, 24, 25, 26, 27, 36, 37, 38, 39, 40, 41, 42, 43, 44, 45, 46, 47, 48, 49] (by decide +kernel) (by decide +kernel)) (goodIn_sub (fun _ h => List.mem_cons_of_mem _ (List.mem_append_right _ h)) (by decide +kernel))
set_option maxRecDepth 20000 in
theorem gX4_inspect_X4_playerAt : GoodIn wsX4_inspect (wsV RX4 61 RX4 yX4_playerAt wsX4_playerAt) := goodIn_app (goodIn_of _ (by decide +kernel)) ggX4_inspect_X4_playerAt
set_option maxRecDepth 20000 in
theorem ggX5_init_X4_init : GoodIn wsX5_init wsX4_init := goodIn_r _ [11, 12, 2, 3, 13, 14, 15, 16, 17, 18, 19, 20, 21, 22, 23, 24, 25, 26, 27, 28, 29, 30, 31, 32, 33, 34, 35, 36, 37, 38, 39, 40, 41, 42, 43, 44, 45, 46, 47, 48, 49, 50, 51, 52, 53, 54, 55, 56, 57, 58, 59, 60, 61, 64, 65, 66, 67, 68, 69, 70, 71, 72, 73, 74, 75, 76, 77, 78, 79, 80, 81, 82, 83, 84, 85, 86] (by decide +kernel) (by decide +kernel)
set_option maxRecDepth 20000 in
theorem gX5_init_X4_init : GoodIn wsX5_init (wsX4_init) := ggX5_init_X4_init
set_option maxRecDepth 20000 in
theorem ggX5_addPlayer_X5_isOutside : GoodIn wsX5_addPlayer wsX5_isOutside := goodIn_r _ [13] (by decide +kernel) (by decide +kernel)
set_option maxRecDepth 20000 in
theorem gX5_addPlayer_X5_isOutside : GoodIn wsX5_addPlayer (va_wsS RX5 20 yX5_isOutside wsX5_isOutside) := goodIn_app (goodIn_of _ (by decide +kernel)) ggX5_addPlayer_X5_isOutside
set_option maxRecDepth 20000 in
theorem ggX5_addPlayer_X4_playerAt : GoodIn wsX5_addPlayer wsX4_playerAt := goodIn_ca (goodIn_r _ [18, 19, 20, 21, 22, 25, 26, 27, 28, 29, 30, 31, 32, 33, 34, 35, 36, 37, 38] (by decide +kernel) (by decide +kernel)) (goodIn_sub (fun _ h => List.mem_cons_of_mem _ (List.mem_append_right _ h)) (by decide +kernel))
set_option maxRecDepth 20000 in
theorem gX5_addPlayer_X4_playerAt : GoodIn wsX5_addPlayer (wsV RX5 44 RX4 yX4_playerAt wsX4_playerAt) := goodIn_app (goodIn_of _ (by decide +kernel)) ggX5_addPlayer_X4_playerAt
set_option maxRecDepth 20000 in
theorem ggX5_player_X4_playerAt : GoodIn wsX5_player wsX4_playerAt := goodIn_ca (goodIn_r _ [13, 14, 2, 15, 16, 58, 59, 60, 61, 62, 63, 64, 65, 66, 67, 68, 69, 70, 71] (by decide +kernel) (by decide +kernel)) (goodIn_sub (fun _ h => List.mem_cons_of_mem _ (List.mem_append_right _ h)) (by decide +kernel))
set_option maxRecDepth 20000 in
theorem gX5_player_X4_playerAt : GoodIn wsX5_player (wsV RX5 44 RX4 yX4_playerAt wsX4_playerAt) := goodIn_app (goodIn_of _ (by decide +kernel)) ggX5_player_X4_playerAt
set_option maxRecDepth 20000 in
theorem ggX5_player_X4_gamesRunningOf : GoodIn wsX5_player wsX4_gamesRunningOf := goodIn_r _ [20, 21, 22, 23, 24, 25, 26, 27, 28, 29, 30, 31, 32, 33, 34, 58, 59, 60, 61, 62, 63, 64, 65, 66, 67, 68, 69, 70, 71, 72, 73, 74, 75, 76, 77, 78, 79, 80, 81, 82, 83, 84] (by decide +kernel) (by decide +kernel)
set_option maxRecDepth 20000 in
theorem gX5_player_X4_gamesRunningOf : GoodIn wsX5_player (wsV RX5 56 RX4 yX4_gamesRunningOf wsX4_gamesRunningOf) := goodIn_app (goodIn_of _ (by decide +kernel)) ggX5_player_X4_gamesRunningOf
set_option maxRecDepth 20000 in
theorem ggX5_player_X4_owedBy : GoodIn wsX5_player wsX4_owedBy := goodIn_r _ [38, 39, 40, 41, 42, 43, 44, 12, 45, 46, 58, 59, 60, 61, 62, 63, 64, 65, 66, 67, 68, 69, 70, 71, 85, 86, 87, 88, 89] (by decide +kernel) (by decide +kernel)
set_option maxRecDepth 20000 in
theorem gX5_player_X4_owedBy : GoodIn wsX5_player (wsV RX5 66 RX4 yX4_owedBy wsX4_owedBy) := goodIn_app (goodIn_of _ (by decide +kernel)) ggX5_player_X4_owedBy
set_option maxRecDepth 20000 in
theorem ggX5_player_X4_loansOf : GoodIn wsX5_player wsX4_loansOf := goodIn_r _ [50, 39, 46, 40, 58, 59, 60, 61, 62, 63, 64, 65, 66, 67, 68, 69, 70, 71, 85, 86, 87, 88, 89] (by decide +kernel) (by decide +kernel)
set_option maxRecDepth 20000 in
theorem gX5_player_X4_loansOf : GoodIn wsX5_player (wsV RX5 71 RX4 yX4_loansOf wsX4_loansOf) := goodIn_app (goodIn_of _ (by decide +kernel)) ggX5_player_X4_loansOf
set_option maxRecDepth 20000 in
theorem ggX5_buy_X4_playerAt : GoodIn wsX5_buy wsX4_playerAt := goodIn_ca (goodIn_r _ [13, 14, 15, 16, 17, 43, 44, 45, 46, 47, 48, 49, 50, 51, 52, 53, 54, 55, 56] (by decide +kernel) (by decide +kernel)) (goodIn_sub (fun _ h => List.mem_cons_of_mem _ (List.mem_append_right _ h)) (by decide +kernel))
set_option maxRecDepth 20000 in
theorem gX5_buy_X4_playerAt : GoodIn wsX5_buy (wsV RX5 44 RX4 yX4_playerAt wsX4_playerAt) := goodIn_app (goodIn_of _ (by decide +kernel)) ggX5_buy_X4_playerAt
set_option maxRecDepth 20000 in
theorem ggX5_buy_X5_isOutside : GoodIn wsX5_buy wsX5_isOutside := goodIn_r _ [21] (by decide +kernel) (by decide +kernel)
set_option maxRecDepth 20000 in
theorem gX5_buy_X5_isOutside : GoodIn wsX5_buy (va_wsS RX5 20 yX5_isOutside wsX5_isOutside) := goodIn_app (goodIn_of _ (by decide +kernel)) ggX5_buy_X5_isOutside
set_option maxRecDepth 20000 in
theorem ggX5_buy_X4_currentPrice : GoodIn wsX5_buy wsX4_currentPrice := goodIn_r _ [25, 26, 27, 28, 29, 30, 31, 32, 12, 33, 34, 35, 43, 44, 45, 46, 47, 48, 49, 50, 51, 52, 53, 54, 55, 56] (by decide +kernel) (by decide +kernel)
set_option maxRecDepth 20000 in
theorem gX5_buy_X4_currentPrice : GoodIn wsX5_buy (wsV RX5 85 RX4 yX4_currentPrice wsX4_currentPrice) := goodIn_app (goodIn_of _ (by decide +kernel)) ggX5_buy_X4_currentPrice
set_option maxRecDepth 20000 in
theorem ggX5_buy_X4_handOut : GoodIn wsX5_buy wsX4_handOut := goodIn_r _ [39, 35, 40, 43, 44, 45, 46, 47, 48, 49, 50, 51, 52, 53, 54, 55, 56, 57, 58, 59, 60, 61] (by decide +kernel) (by decide +kernel)
set_option maxRecDepth 20000 in
theorem gX5_buy_X4_handOut : GoodIn wsX5_buy (wsV RX5 96 RX4 yX4_handOut wsX4_handOut) := goodIn_app (goodIn_of _ (by decide +kernel)) ggX5_buy_X4_handOut
set_option maxRecDepth 20000 in
theorem ggX5_sell_X4_playerAt : GoodIn wsX5_sell wsX4_playerAt := goodIn_ca (goodIn_r _ [14, 15, 16, 17, 18, 44, 45, 46, 47, 48, 49, 50, 51, 52, 53, 54, 55, 56, 57] (by decide +kernel) (by decide +kernel)) (goodIn_sub (fun _ h => List.mem_cons_of_mem _ (List.mem_append_right _ h)) (by decide +kernel))
set_option maxRecDepth 20000 in
theorem gX5_sell_X4_playerAt : GoodIn wsX5_sell (wsV RX5 44 RX4 yX4_playerAt wsX4_playerAt) := goodIn_app (goodIn_of _ (by decide +kernel)) ggX5_sell_X4_playerAt
set_option maxRecDepth 20000 in
theorem ggX5_sell_X5_isOutside : GoodIn wsX5_sell wsX5_isOutside := goodIn_r _ [22] (by decide +kernel) (by decide +kernel)
set_option maxRecDepth 20000 in
theorem gX5_sell_X5_isOutside : GoodIn wsX5_sell (va_wsS RX5 20 yX5_isOutside wsX5_isOutside) := goodIn_app (goodIn_of _ (by decide +kernel)) ggX5_sell_X5_isOutside
set_option maxRecDepth 20000 in
theorem ggX5_sell_X4_currentPrice : GoodIn wsX5_sell wsX4_currentPrice := goodIn_r _ [26, 27, 28, 29, 30, 31, 32, 33, 13, 34, 35, 36, 44, 45, 46, 47, 48, 49, 50, 51, 52, 53, 54, 55, 56, 57] (by decide +kernel) (by decide +kernel)
set_option maxRecDepth 20000 in
theorem gX5_sell_X4_currentPrice : GoodIn wsX5_sell (wsV RX5 85 RX4 yX4_currentPrice wsX4_currentPrice) := goodIn_app (goodIn_of _ (by decide +kernel)) ggX5_sell_X4_currentPrice
set_option maxRecDepth 20000 in
theorem ggX5_borrow_X4_playerAt : GoodIn wsX5_borrow wsX4_playerAt := goodIn_ca (goodIn_r _ [14, 15, 16, 17, 18, 53, 54, 55, 56, 57, 58, 59, 60, 61, 62, 63, 64, 65, 66] (by decide +kernel) (by decide +kernel)) (goodIn_sub (fun _ h => List.mem_cons_of_mem _ (List.mem_append_right _ h)) (by decide +kernel))
set_option maxRecDepth 20000 in
theorem gX5_borrow_X4_playerAt : GoodIn wsX5_borrow (wsV RX5 44 RX4 yX4_playerAt wsX4_playerAt) := goodIn_app (goodIn_of _ (by decide +kernel)) ggX5_borrow_X4_playerAt
set_option maxRecDepth 20000 in
theorem ggX5_borrow_X5_isOutside : GoodIn wsX5_borrow wsX5_isOutside := goodIn_r _ [22] (by decide +kernel) (by decide +kernel)
set_option maxRecDepth 20000 in
theorem gX5_borrow_X5_isOutside : GoodIn wsX5_borrow (va_wsS RX5 20 yX5_isOutside wsX5_isOutside) := goodIn_app (goodIn_of _ (by decide +kernel)) ggX5_borrow_X5_isOutside
set_option maxRecDepth 20000 in
theorem ggX5_borrow_X4_loansOf : GoodIn wsX5_borrow wsX4_loansOf := goodIn_r _ [26, 27, 28, 29, 53, 54, 55, 56, 57, 58, 59, 60, 61, 62, 63, 64, 65, 66, 67, 68, 69, 70, 71] (by decide +kernel) (by decide +kernel)
set_option maxRecDepth 20000 in
theorem gX5_borrow_X4_loansOf : GoodIn wsX5_borrow (wsV RX5 71 RX4 yX4_loansOf wsX4_loansOf) := goodIn_app (goodIn_of _ (by decide +kernel)) ggX5_borrow_X4_loansOf
set_option maxRecDepth 20000 in
theorem ggX5_borrow_X4_loanAt : GoodIn wsX5_borrow wsX4_loanAt := goodIn_ca (goodIn_r _ [33, 15, 16, 34, 27, 53, 54, 55, 56, 57, 58, 59, 60, 61, 62, 63, 64, 65, 66] (by decide +kernel) (by decide +kernel)) (goodIn_sub (fun _ h => List.mem_cons_of_mem _ (List.mem_append_right _ h)) (by decide +kernel))
set_option maxRecDepth 20000 in
theorem gX5_borrow_X4_loanAt : GoodIn wsX5_borrow (wsV RX5 122 RX4 yX4_loanAt wsX4_loanAt) := goodIn_app (goodIn_of _ (by decide +kernel)) ggX5_borrow_X4_loanAt
set_option maxRecDepth 20000 in
theorem ggX5_borrow_X1_open : GoodIn wsX5_borrow wsX1_open := goodIn_r _ [39, 40, 41, 42, 43, 44, 67, 68, 69, 70, 71] (by decide +kernel) (by decide +kernel)
set_option maxRecDepth 20000 in
theorem gX5_borrow_X1_open : GoodIn wsX5_borrow (wsV RX5 129 RX1 yX1_open wsX1_open) := goodIn_app (goodIn_of _ (by decide +kernel)) ggX5_borrow_X1_open
set_option maxRecDepth 20000 in
theorem ggX5_borrow_X4_handOut : GoodIn wsX5_borrow wsX4_handOut := goodIn_r _ [48, 49, 50, 53, 54, 55, 56, 57, 58, 59, 60, 61, 62, 63, 64, 65, 66, 72, 73, 74, 75, 76] (by decide +kernel) (by decide +kernel)
set_option maxRecDepth 20000 in
theorem gX5_borrow_X4_handOut : GoodIn wsX5_borrow (wsV RX5 96 RX4 yX4_handOut wsX4_handOut) := goodIn_app (goodIn_of _ (by decide +kernel)) ggX5_borrow_X4_handOut
set_option maxRecDepth 20000 in
theorem ggX5_repay_X4_loanAt : GoodIn wsX5_repay wsX4_loanAt := goodIn_ca (goodIn_r _ [13, 14, 15, 16, 17, 51, 52, 53, 54, 55, 56, 57, 58, 59, 60, 61, 62, 63, 64] (by decide +kernel) (by decide +kernel)) (goodIn_sub (fun _ h => List.mem_cons_of_mem _ (List.mem_append_right _ h)) (by decide +kernel))
set_option maxRecDepth 20000 in
theorem gX5_repay_X4_loanAt : GoodIn wsX5_repay (wsV RX5 122 RX4 yX4_loanAt wsX4_loanAt) := goodIn_app (goodIn_of _ (by decide +kernel)) ggX5_repay_X4_loanAt
set_option maxRecDepth 20000 in
theorem ggX5_repay_X5_isOutside : GoodIn wsX5_repay wsX5_isOutside := goodIn_r _ [21] (by decide +kernel) (by decide +kernel)
set_option maxRecDepth 20000 in
theorem gX5_repay_X5_isOutside : GoodIn wsX5_repay (va_wsS RX5 20 yX5_isOutside wsX5_isOutside) := goodIn_app (goodIn_of _ (by decide +kernel)) ggX5_repay_X5_isOutside
set_option maxRecDepth 20000 in
theorem ggX5_repay_X4_takeFromPocket : GoodIn wsX5_repay wsX4_takeFromPocket := goodIn_ca (goodIn_r _ [25, 26, 27, 28, 29, 30, 31, 32, 33, 34, 35, 12, 36, 14, 15, 37, 38, 39, 40, 41, 42, 43, 46, 47, 48, 49, 50, 65, 66, 67, 68, 69, 51, 52, 53, 54, 55, 56, 57, 58, 59, 60, 61, 62, 63, 64] (by decide +kernel) (by decide +kernel)) (goodIn_sub (fun _ h => List.mem_cons_of_mem _ (List.mem_append_right _ h)) (by decide +kernel))
set_option maxRecDepth 20000 in
theorem gX5_repay_X4_takeFromPocket : GoodIn wsX5_repay (wsV RX5 140 RX4 yX4_takeFromPocket wsX4_takeFromPocket) := goodIn_app (goodIn_of _ (by decide +kernel)) ggX5_repay_X4_takeFromPocket
set_option maxRecDepth 20000 in
theorem ggX5_loan_X4_loanAt : GoodIn wsX5_loan wsX4_loanAt := goodIn_ca (goodIn_r _ [13, 14, 2, 15, 16, 24, 25, 26, 27, 28, 29, 30, 31, 32, 33, 34, 35, 36, 37] (by decide +kernel) (by decide +kernel)) (goodIn_sub (fun _ h => List.mem_cons_of_mem _ (List.mem_append_right _ h)) (by decide +kernel))
set_option maxRecDepth 20000 in
theorem gX5_loan_X4_loanAt : GoodIn wsX5_loan (wsV RX5 122 RX4 yX4_loanAt wsX4_loanAt) := goodIn_app (goodIn_of _ (by decide +kernel)) ggX5_loan_X4_loanAt
set_option maxRecDepth 20000 in
theorem ggX5_begin_X4_playerAt : GoodIn wsX5_begin wsX4_playerAt := goodIn_ca (goodIn_r _ [13, 14, 15, 16, 17, 62, 63, 64, 65, 66, 67, 68, 69, 70, 71, 72, 73, 74, 75] (by decide +kernel) (by decide +kernel)) (goodIn_sub (fun _ h => List.mem_cons_of_mem _ (List.mem_append_right _ h)) (by decide +kernel))
set_option maxRecDepth 20000 in
theorem gX5_begin_X4_playerAt : GoodIn wsX5_begin (wsV RX5 44 RX4 yX4_playerAt wsX4_playerAt) := goodIn_app (goodIn_of _ (by decide +kernel)) ggX5_begin_X4_playerAt
set_option maxRecDepth 20000 in
theorem ggX5_begin_X5_isOutside : GoodIn wsX5_begin wsX5_isOutside := goodIn_r _ [21] (by decide +kernel) (by decide +kernel)
set_option maxRecDepth 20000 in
theorem gX5_begin_X5_isOutside : GoodIn wsX5_begin (va_wsS RX5 20 yX5_isOutside wsX5_isOutside) := goodIn_app (goodIn_of _ (by decide +kernel)) ggX5_begin_X5_isOutside
set_option maxRecDepth 20000 in
theorem ggX5_begin_X4_gameAt : GoodIn wsX5_begin wsX4_gameAt := goodIn_ca (goodIn_r _ [25, 14, 15, 26, 27, 62, 63, 64, 65, 66, 67, 68, 69, 70, 71, 72, 73, 74, 75] (by decide +kernel) (by decide +kernel)) (goodIn_sub (fun _ h => List.mem_cons_of_mem _ (List.mem_append_right _ h)) (by decide +kernel))
set_option maxRecDepth 20000 in
theorem gX5_begin_X4_gameAt : GoodIn wsX5_begin (wsV RX5 177 RX4 yX4_gameAt wsX4_gameAt) := goodIn_app (goodIn_of _ (by decide +kernel)) ggX5_begin_X4_gameAt
set_option maxRecDepth 20000 in
theorem ggX5_begin_X0_sitDown : GoodIn wsX5_begin wsX0_sitDown := goodIn_r _ [32, 33, 34, 35, 36, 37, 38, 39, 40, 41, 42, 76, 77, 78, 79, 80, 81, 82, 83, 84, 85, 86, 87, 88] (by decide +kernel) (by decide +kernel)
set_option maxRecDepth 20000 in
theorem gX5_begin_X0_sitDown : GoodIn wsX5_begin (wsV RX5 181 RX0 yX0_sitDown wsX0_sitDown) := goodIn_app (goodIn_of _ (by decide +kernel)) ggX5_begin_X0_sitDown
set_option maxRecDepth 20000 in
theorem ggX5_begin_X0_start : GoodIn wsX5_begin wsX0_start := goodIn_r _ [46, 47, 48, 49, 50, 51, 52, 53, 54, 76, 77, 78, 79, 80, 81, 82, 83, 84, 85] (by decide +kernel) (by decide +kernel)
set_option maxRecDepth 20000 in
theorem gX5_begin_X0_start : GoodIn wsX5_begin (wsV RX5 187 RX0 yX0_start wsX0_start) := goodIn_app (goodIn_of _ (by decide +kernel)) ggX5_begin_X0_start
set_option maxRecDepth 20000 in
theorem ggX5_press_X4_gameAt : GoodIn wsX5_press wsX4_gameAt := goodIn_ca (goodIn_r _ [9, 10, 11, 12, 13, 51, 52, 53, 54, 55, 56, 57, 58, 59, 60, 61, 62, 63, 64] (by decide +kernel) (by decide +kernel)) (goodIn_sub (fun _ h => List.mem_cons_of_mem _ (List.mem_append_right _ h)) (by decide +kernel))
set_option maxRecDepth 20000 in
theorem gX5_press_X4_gameAt : GoodIn wsX5_press (wsV RX5 177 RX4 yX4_gameAt wsX4_gameAt) := goodIn_app (goodIn_of _ (by decide +kernel)) ggX5_press_X4_gameAt
set_option maxRecDepth 20000 in
theorem ggX5_press_X0_runs : GoodIn wsX5_press wsX0_runs := goodIn_r _ [18, 19, 41, 42, 43, 44, 45, 46, 47, 48, 49, 50] (by decide +kernel) (by decide +kernel)
set_option maxRecDepth 20000 in
theorem gX5_press_X0_runs : GoodIn wsX5_press (wsV RX5 190 RX0 yX0_runs wsX0_runs) := goodIn_app (goodIn_of _ (by decide +kernel)) ggX5_press_X0_runs
set_option maxRecDepth 20000 in
theorem ggX5_press_X0_move : GoodIn wsX5_press wsX0_move := goodIn_r _ [23, 24, 25, 26, 27, 28, 29, 30, 31, 17, 32, 33, 34, 35, 36, 37, 38, 65, 66, 67, 41, 42, 43, 44, 45, 46, 47, 48, 49, 50] (by decide +kernel) (by decide +kernel)
set_option maxRecDepth 20000 in
theorem gX5_press_X0_move : GoodIn wsX5_press (wsV RX5 196 RX0 yX0_move wsX0_move) := goodIn_app (goodIn_of _ (by decide +kernel)) ggX5_press_X0_move
set_option maxRecDepth 20000 in
theorem ggX5_put_X4_gameAt : GoodIn wsX5_put wsX4_gameAt := goodIn_ca (goodIn_r _ [13, 14, 15, 16, 17, 50, 51, 52, 53, 54, 55, 56, 57, 58, 59, 60, 61, 62, 63] (by decide +kernel) (by decide +kernel)) (goodIn_sub (fun _ h => List.mem_cons_of_mem _ (List.mem_append_right _ h)) (by decide +kernel))
set_option maxRecDepth 20000 in
theorem gX5_put_X4_gameAt : GoodIn wsX5_put (wsV RX5 177 RX4 yX4_gameAt wsX4_gameAt) := goodIn_app (goodIn_of _ (by decide +kernel)) ggX5_put_X4_gameAt
set_option maxRecDepth 20000 in
theorem ggX5_put_X5_isOutside : GoodIn wsX5_put wsX5_isOutside := goodIn_r _ [21] (by decide +kernel) (by decide +kernel)
set_option maxRecDepth 20000 in
theorem gX5_put_X5_isOutside : GoodIn wsX5_put (va_wsS RX5 20 yX5_isOutside wsX5_isOutside) := goodIn_app (goodIn_of _ (by decide +kernel)) ggX5_put_X5_isOutside
set_option maxRecDepth 20000 in
theorem ggX5_put_X0_runs : GoodIn wsX5_put wsX0_runs := goodIn_r _ [26, 27, 64, 65, 66, 67, 68, 69, 70, 71, 72, 73] (by decide +kernel) (by decide +kernel)
set_option maxRecDepth 20000 in
theorem gX5_put_X0_runs : GoodIn wsX5_put (wsV RX5 190 RX0 yX0_runs wsX0_runs) := goodIn_app (goodIn_of _ (by decide +kernel)) ggX5_put_X0_runs
set_option maxRecDepth 20000 in
theorem ggX5_put_X0_sideAt : GoodIn wsX5_put wsX0_sideAt := goodIn_r _ [31, 32, 33, 64, 65, 66, 67, 68, 69, 70, 71, 72, 73] (by decide +kernel) (by decide +kernel)
set_option maxRecDepth 20000 in
theorem gX5_put_X0_sideAt : GoodIn wsX5_put (wsV RX5 206 RX0 yX0_sideAt wsX0_sideAt) := goodIn_app (goodIn_of _ (by decide +kernel)) ggX5_put_X0_sideAt
set_option maxRecDepth 20000 in
theorem ggX5_put_X4_playerAt : GoodIn wsX5_put wsX4_playerAt := goodIn_ca (goodIn_r _ [37, 14, 15, 38, 39, 50, 51, 52, 53, 54, 55, 56, 57, 58, 59, 60, 61, 62, 63] (by decide +kernel) (by decide +kernel)) (goodIn_sub (fun _ h => List.mem_cons_of_mem _ (List.mem_append_right _ h)) (by decide +kernel))
set_option maxRecDepth 20000 in
theorem gX5_put_X4_playerAt : GoodIn wsX5_put (wsV RX5 44 RX4 yX4_playerAt wsX4_playerAt) := goodIn_app (goodIn_of _ (by decide +kernel)) ggX5_put_X4_playerAt
set_option maxRecDepth 20000 in
theorem ggX5_steal_X4_gameAt : GoodIn wsX5_steal wsX4_gameAt := goodIn_ca (goodIn_r _ [12, 13, 14, 15, 16, 62, 63, 64, 65, 66, 67, 68, 69, 70, 71, 72, 73, 74, 75] (by decide +kernel) (by decide +kernel)) (goodIn_sub (fun _ h => List.mem_cons_of_mem _ (List.mem_append_right _ h)) (by decide +kernel))
set_option maxRecDepth 20000 in
theorem gX5_steal_X4_gameAt : GoodIn wsX5_steal (wsV RX5 177 RX4 yX4_gameAt wsX4_gameAt) := goodIn_app (goodIn_of _ (by decide +kernel)) ggX5_steal_X4_gameAt
set_option maxRecDepth 20000 in
theorem ggX5_steal_X5_isOutside : GoodIn wsX5_steal wsX5_isOutside := goodIn_r _ [20] (by decide +kernel) (by decide +kernel)
set_option maxRecDepth 20000 in
theorem gX5_steal_X5_isOutside : GoodIn wsX5_steal (va_wsS RX5 20 yX5_isOutside wsX5_isOutside) := goodIn_app (goodIn_of _ (by decide +kernel)) ggX5_steal_X5_isOutside
set_option maxRecDepth 20000 in
theorem ggX5_steal_X0_runs : GoodIn wsX5_steal wsX0_runs := goodIn_r _ [25, 26, 49, 50, 51, 52, 53, 54, 55, 56, 57, 58] (by decide +kernel) (by decide +kernel)
set_option maxRecDepth 20000 in
theorem gX5_steal_X0_runs : GoodIn wsX5_steal (wsV RX5 190 RX0 yX0_runs wsX0_runs) := goodIn_app (goodIn_of _ (by decide +kernel)) ggX5_steal_X0_runs
set_option maxRecDepth 20000 in
theorem ggX5_steal_X0_sideAt : GoodIn wsX5_steal wsX0_sideAt := goodIn_r _ [30, 31, 32, 49, 50, 51, 52, 53, 54, 55, 56, 57, 58] (by decide +kernel) (by decide +kernel)
set_option maxRecDepth 20000 in
theorem gX5_steal_X0_sideAt : GoodIn wsX5_steal (wsV RX5 206 RX0 yX0_sideAt wsX0_sideAt) := goodIn_app (goodIn_of _ (by decide +kernel)) ggX5_steal_X0_sideAt
set_option maxRecDepth 20000 in
theorem ggX5_steal_X3_giveTo : GoodIn wsX5_steal wsX3_giveTo := goodIn_r _ [37, 38, 39, 40, 41, 36, 42, 43, 44, 45, 46, 59, 60, 61] (by decide +kernel) (by decide +kernel)
set_option maxRecDepth 20000 in
theorem gX5_steal_X3_giveTo : GoodIn wsX5_steal (wsV RX5 223 RX3 yX3_giveTo wsX3_giveTo) := goodIn_app (goodIn_of _ (by decide +kernel)) ggX5_steal_X3_giveTo
set_option maxRecDepth 20000 in
theorem ggX5_end_X4_gameAt : GoodIn wsX5_end wsX4_gameAt := goodIn_ca (goodIn_r _ [10, 11, 12, 13, 14, 56, 57, 58, 59, 60, 61, 62, 63, 64, 65, 66, 67, 68, 69] (by decide +kernel) (by decide +kernel)) (goodIn_sub (fun _ h => List.mem_cons_of_mem _ (List.mem_append_right _ h)) (by decide +kernel))
set_option maxRecDepth 20000 in
theorem gX5_end_X4_gameAt : GoodIn wsX5_end (wsV RX5 177 RX4 yX4_gameAt wsX4_gameAt) := goodIn_app (goodIn_of _ (by decide +kernel)) ggX5_end_X4_gameAt
set_option maxRecDepth 20000 in
theorem ggX5_end_X5_isOutside : GoodIn wsX5_end wsX5_isOutside := goodIn_r _ [18] (by decide +kernel) (by decide +kernel)
set_option maxRecDepth 20000 in
theorem gX5_end_X5_isOutside : GoodIn wsX5_end (va_wsS RX5 20 yX5_isOutside wsX5_isOutside) := goodIn_app (goodIn_of _ (by decide +kernel)) ggX5_end_X5_isOutside
set_option maxRecDepth 20000 in
theorem ggX5_end_X0_runs : GoodIn wsX5_end wsX0_runs := goodIn_r _ [23, 24, 70, 71, 72, 73, 74, 75, 76, 77, 78, 79] (by decide +kernel) (by decide +kernel)
set_option maxRecDepth 20000 in
theorem gX5_end_X0_runs : GoodIn wsX5_end (wsV RX5 190 RX0 yX0_runs wsX0_runs) := goodIn_app (goodIn_of _ (by decide +kernel)) ggX5_end_X0_runs
set_option maxRecDepth 20000 in
theorem ggX5_end_X4_stop : GoodIn wsX5_end wsX4_stop := goodIn_ca (goodIn_r _ [28, 29, 30, 31, 32, 33, 34, 35, 36, 37, 9, 38, 11, 12, 39, 40, 70, 71, 72, 73, 74, 75, 76, 77, 78, 79, 80, 81, 82, 83, 84, 85, 86, 87, 56, 57, 58, 59, 60, 61, 62, 63, 64, 65, 66, 67, 68, 69] (by decide +kernel) (by decide +kernel)) (goodIn_sub (fun _ h => List.mem_cons_of_mem _ (List.mem_append_right _ h)) (by decide +kernel))
set_option maxRecDepth 20000 in
theorem gX5_end_X4_stop : GoodIn wsX5_end (wsV RX5 232 RX4 yX4_stop wsX4_stop) := goodIn_app (goodIn_of _ (by decide +kernel)) ggX5_end_X4_stop
set_option maxRecDepth 20000 in
theorem ggX5_end_X4_awardTo : GoodIn wsX5_end wsX4_awardTo := goodIn_ca (goodIn_r _ [44, 30, 32, 31, 45, 46, 47, 34, 48, 49, 50, 22, 51, 52, 53, 35, 36, 37, 9, 38, 11, 12, 39, 40, 80, 81, 82, 70, 71, 72, 73, 74, 75, 76, 77, 78, 79, 83, 84, 85, 86, 87, 56, 57, 58, 59, 60, 61, 62, 63, 64, 65, 66, 67, 68, 69] (by decide +kernel) (by decide +kernel)) (goodIn_sub (fun _ h => List.mem_cons_of_mem _ (List.mem_append_right _ h)) (by decide +kernel))
set_option maxRecDepth 20000 in
theorem gX5_end_X4_awardTo : GoodIn wsX5_end (wsV RX5 236 RX4 yX4_awardTo wsX4_awardTo) := goodIn_app (goodIn_of _ (by decide +kernel)) ggX5_end_X4_awardTo
set_option maxRecDepth 20000 in
theorem ggX5_game_X4_gameAt : GoodIn wsX5_game wsX4_gameAt := goodIn_ca (goodIn_r _ [18, 19, 2, 20, 21, 37, 38, 39, 40, 41, 42, 43, 44, 45, 46, 47, 48, 49, 50] (by decide +kernel) (by decide +kernel)) (goodIn_sub (fun _ h => List.mem_cons_of_mem _ (List.mem_append_right _ h)) (by decide +kernel))
set_option maxRecDepth 20000 in
theorem gX5_game_X4_gameAt : GoodIn wsX5_game (wsV RX5 177 RX4 yX4_gameAt wsX4_gameAt) := goodIn_app (goodIn_of _ (by decide +kernel)) ggX5_game_X4_gameAt
set_option maxRecDepth 20000 in
theorem ggX5_pass_X5_isOutside : GoodIn wsX5_pass wsX5_isOutside := goodIn_r _ [11] (by decide +kernel) (by decide +kernel)
set_option maxRecDepth 20000 in
theorem gX5_pass_X5_isOutside : GoodIn wsX5_pass (va_wsS RX5 20 yX5_isOutside wsX5_isOutside) := goodIn_app (goodIn_of _ (by decide +kernel)) ggX5_pass_X5_isOutside
set_option maxRecDepth 20000 in
theorem ggX5_pass_X4_letGoBy : GoodIn wsX5_pass wsX4_letGoBy := goodIn_ca (goodIn_r _ [16, 17, 18, 19, 20, 15, 21, 22, 23, 24, 25, 26, 27, 28, 29, 30, 31, 32, 33, 34, 35, 36, 37, 38, 39, 40, 41, 42, 43, 44, 45, 46, 47, 48, 49, 50, 51, 52, 53, 54, 55, 56, 57, 58, 59, 60, 61, 62, 63, 64, 65, 66, 67, 68, 69, 70, 71, 72, 73, 74, 75, 76, 77, 78, 79, 80, 81, 82, 83, 84, 85, 86, 87, 88, 89, 90, 91, 92, 93, 94, 95, 96, 97, 98, 99, 100, 101, 102, 103, 104, 105, 106, 107, 108, 109, 110, 111, 112, 113, 114, 115, 116, 117, 118, 119, 120, 121, 122, 123, 124, 125, 126, 127, 128, 129, 130, 131, 132, 133, 134, 135, 136, 137, 138, 139, 140, 141, 142, 143, 144, 145, 146, 147, 148, 149, 150, 151, 152, 153, 156, 157, 158, 159, 160, 161, 162, 163, 164, 165, 166, 167, 168, 169, 170, 171, 172, 173, 174, 175, 176, 177, 178, 179, 180, 181, 182, 183, 184, 185, 186, 187, 188, 189, 190, 191, 192] (by decide +kernel) (by decide +kernel)) (goodIn_sub (fun _ h => List.mem_cons_of_mem _ (List.mem_append_right _ h)) (by decide +kernel))
set_option maxRecDepth 20000 in
theorem gX5_pass_X4_letGoBy : GoodIn wsX5_pass (wsV RX5 260 RX4 yX4_letGoBy wsX4_letGoBy) := goodIn_app (goodIn_of _ (by decide +kernel)) ggX5_pass_X4_letGoBy
set_option maxRecDepth 20000 in
theorem ggX5_count_X4_gamesRunning : GoodIn wsX5_count wsX4_gamesRunning := goodIn_r _ [15, 16, 17, 18, 19, 20, 21, 22, 46, 47, 48, 49, 50, 51, 52, 53, 54, 55, 56, 57, 58, 59, 60, 61, 62, 63, 64, 65, 66, 67, 68, 69] (by decide +kernel) (by decide +kernel)
set_option maxRecDepth 20000 in
theorem gX5_count_X4_gamesRunning : GoodIn wsX5_count (wsV RX5 267 RX4 yX4_gamesRunning wsX4_gamesRunning) := goodIn_app (goodIn_of _ (by decide +kernel)) ggX5_count_X4_gamesRunning
set_option maxRecDepth 20000 in
theorem ggX5_count_X4_openLoans : GoodIn wsX5_count wsX4_openLoans := goodIn_r _ [26, 27, 28, 46, 47, 48, 49, 50, 51, 52, 53, 54, 55, 56, 57, 58, 59, 70, 71, 72, 73, 74] (by decide +kernel) (by decide +kernel)
set_option maxRecDepth 20000 in
theorem gX5_count_X4_openLoans : GoodIn wsX5_count (wsV RX5 270 RX4 yX4_openLoans wsX4_openLoans) := goodIn_app (goodIn_of _ (by decide +kernel)) ggX5_count_X4_openLoans
set_option maxRecDepth 20000 in
theorem ggX5_count_X4_currentPrice : GoodIn wsX5_count wsX4_currentPrice := goodIn_r _ [32, 33, 34, 35, 36, 37, 38, 39, 14, 40, 41, 42, 46, 47, 48, 49, 50, 51, 52, 53, 54, 55, 56, 57, 58, 59] (by decide +kernel) (by decide +kernel)
set_option maxRecDepth 20000 in
theorem gX5_count_X4_currentPrice : GoodIn wsX5_count (wsV RX5 85 RX4 yX4_currentPrice wsX4_currentPrice) := goodIn_app (goodIn_of _ (by decide +kernel)) ggX5_count_X4_currentPrice
set_option maxRecDepth 20000 in
theorem ggX5_count_X4_secondsOut : GoodIn wsX5_count wsX4_secondsOut := goodIn_r _ [40, 41, 42, 46, 47, 48, 49, 50, 51, 52, 53, 54, 55, 56, 57, 58, 59] (by decide +kernel) (by decide +kernel)
set_option maxRecDepth 20000 in
theorem gX5_count_X4_secondsOut : GoodIn wsX5_count (wsV RX5 273 RX4 yX4_secondsOut wsX4_secondsOut) := goodIn_app (goodIn_of _ (by decide +kernel)) ggX5_count_X4_secondsOut
set_option maxRecDepth 20000 in
theorem ggX5_foresee_X5_isOutside : GoodIn wsX5_foresee wsX5_isOutside := goodIn_r _ [17] (by decide +kernel) (by decide +kernel)
set_option maxRecDepth 20000 in
theorem gX5_foresee_X5_isOutside : GoodIn wsX5_foresee (va_wsS RX5 20 yX5_isOutside wsX5_isOutside) := goodIn_app (goodIn_of _ (by decide +kernel)) ggX5_foresee_X5_isOutside
set_option maxRecDepth 20000 in
theorem ggX5_foresee_X4_copy : GoodIn wsX5_foresee wsX4_copy := goodIn_ca (goodIn_r _ [22, 23, 24, 25, 26, 27, 28, 29, 30, 31, 32, 21, 33, 34, 4, 35, 36, 37, 38, 39, 40, 41, 42, 43, 44, 45, 46, 47, 48, 49, 50, 51, 52, 53, 54, 55, 56, 57, 58, 59, 60, 61, 62, 63, 64, 65, 66, 67, 68, 69, 70, 71, 72, 73, 74, 75, 76, 77, 78, 79, 80, 81, 82, 83, 84, 85, 86, 87, 88, 206, 207, 208, 209, 210, 211, 212, 213, 214, 215, 216, 217, 218, 219, 220, 221, 222, 223, 224, 225, 226, 227, 228, 229, 230, 231, 232, 233, 234, 235, 236, 237, 238, 239, 240, 241, 242] (by decide +kernel) (by decide +kernel)) (goodIn_sub (fun _ h => List.mem_cons_of_mem _ (List.mem_append_right _ h)) (by decide +kernel))
set_option maxRecDepth 20000 in
theorem gX5_foresee_X4_copy : GoodIn wsX5_foresee (wsV RX5 281 RX4 yX4_copy wsX4_copy) := goodIn_app (goodIn_of _ (by decide +kernel)) ggX5_foresee_X4_copy
set_option maxRecDepth 20000 in
theorem ggX5_foresee_X4_letGoBy : GoodIn wsX5_foresee wsX4_letGoBy := goodIn_ca (goodIn_r _ [92, 23, 93, 94, 95, 21, 96, 97, 98, 99, 100, 101, 102, 103, 104, 65, 105, 106, 107, 108, 69, 109, 80, 110, 111, 112, 113, 79, 75, 114, 115, 116, 117, 118, 77, 119, 120, 121, 122, 71, 72, 123, 124, 125, 126, 127, 128, 129, 130, 131, 132, 133, 134, 25, 135, 136, 137, 138, 30, 31, 32, 33, 34, 4, 27, 35, 139, 140, 141, 142, 50, 143, 144, 145, 146, 54, 147, 148, 57, 58, 149, 150, 151, 152, 153, 154, 155, 156, 157, 158, 159, 160, 161, 162, 163, 164, 165, 166, 167, 168, 169, 24, 170, 171, 172, 173, 174, 175, 176, 177, 178, 179, 180, 181, 182, 84, 183, 87, 184, 185, 186, 187, 188, 189, 190, 191, 192, 193, 194, 195, 196, 197, 198, 26, 199, 200, 201, 202, 203, 206, 207, 208, 209, 210, 211, 212, 213, 214, 215, 216, 217, 218, 219, 230, 231, 232, 233, 234, 235, 236, 237, 238, 239, 240, 241, 242, 220, 221, 222, 223, 224, 225, 226, 227, 228, 229] (by decide +kernel) (by decide +kernel)) (goodIn_sub (fun _ h => List.mem_cons_of_mem _ (List.mem_append_right _ h)) (by decide +kernel))
set_option maxRecDepth 20000 in
theorem gX5_foresee_X4_letGoBy : GoodIn wsX5_foresee (wsV RX5 260 RX4 yX4_letGoBy wsX4_letGoBy) := goodIn_app (goodIn_of _ (by decide +kernel)) ggX5_foresee_X4_letGoBy
set_option maxRecDepth 20000 in
theorem ggX5_leader_X4_playersAheadOf : GoodIn wsX5_leader wsX4_playersAheadOf := goodIn_ca (goodIn_r _ [9, 10, 11, 12, 13, 8, 14, 15, 2, 16, 17, 18, 19, 20, 21, 22, 23, 24, 27, 28, 29, 30, 31, 32, 33, 34, 35, 36, 37, 38, 39, 40, 41, 42, 43, 44, 45] (by decide +kernel) (by decide +kernel)) (goodIn_sub (fun _ h => List.mem_cons_of_mem _ (List.mem_append_right _ h)) (by decide +kernel))
