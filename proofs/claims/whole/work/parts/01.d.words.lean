set_option maxRecDepth 20000 in
theorem gX5_leader_X4_playersAheadOf : GoodIn wsX5_leader (wsV RX5 294 RX4 yX4_playersAheadOf wsX4_playersAheadOf) := goodIn_app (goodIn_of _ (by decide +kernel)) ggX5_leader_X4_playersAheadOf
set_option maxRecDepth 20000 in
theorem ggX5_needs_X5_isOutside : GoodIn wsX5_needs wsX5_isOutside := goodIn_r _ [12] (by decide +kernel) (by decide +kernel)
set_option maxRecDepth 20000 in
theorem gX5_needs_X5_isOutside : GoodIn wsX5_needs (va_wsS RX5 20 yX5_isOutside wsX5_isOutside) := goodIn_app (goodIn_of _ (by decide +kernel)) ggX5_needs_X5_isOutside
set_option maxRecDepth 20000 in
theorem ggX5_needs_X0_runs : GoodIn wsX5_needs wsX0_runs := goodIn_r _ [17, 18, 61, 62, 63, 64, 65, 66, 67, 68, 69, 70] (by decide +kernel) (by decide +kernel)
set_option maxRecDepth 20000 in
theorem gX5_needs_X0_runs : GoodIn wsX5_needs (wsV RX5 190 RX0 yX0_runs wsX0_runs) := goodIn_app (goodIn_of _ (by decide +kernel)) ggX5_needs_X0_runs
set_option maxRecDepth 20000 in
theorem ggX5_needs_X0_mover : GoodIn wsX5_needs wsX0_mover := goodIn_r _ [22, 23, 24, 25, 26, 16, 27, 28, 29, 61, 62, 63, 64, 65, 66, 67, 68, 69, 70] (by decide +kernel) (by decide +kernel)
set_option maxRecDepth 20000 in
theorem gX5_needs_X0_mover : GoodIn wsX5_needs (wsV RX5 303 RX0 yX0_mover wsX0_mover) := goodIn_app (goodIn_of _ (by decide +kernel)) ggX5_needs_X0_mover
set_option maxRecDepth 20000 in
theorem ggX5_needs_X0_missingFor : GoodIn wsX5_needs wsX0_missingFor := goodIn_r _ [33, 34, 35, 36, 37, 38, 39, 40, 41, 20, 21, 16, 22, 23, 24, 25, 26, 27, 28, 29, 61, 62, 63, 64, 65, 66, 67, 68, 69, 70, 58, 59, 60] (by decide +kernel) (by decide +kernel)
set_option maxRecDepth 20000 in
theorem gX5_needs_X0_missingFor : GoodIn wsX5_needs (wsV RX5 307 RX0 yX0_missingFor wsX0_missingFor) := goodIn_app (goodIn_of _ (by decide +kernel)) ggX5_needs_X0_missingFor
set_option maxRecDepth 20000 in
theorem ggX5_mean_X0_runs : GoodIn wsX5_mean wsX0_runs := goodIn_r _ [10, 11, 28, 29, 30, 31, 32, 33, 34, 35, 36, 37] (by decide +kernel) (by decide +kernel)
set_option maxRecDepth 20000 in
theorem gX5_mean_X0_runs : GoodIn wsX5_mean (wsV RX5 190 RX0 yX0_runs wsX0_runs) := goodIn_app (goodIn_of _ (by decide +kernel)) ggX5_mean_X0_runs
set_option maxRecDepth 20000 in
theorem ggX5_digest_X5_count : GoodIn wsX5_digest wsX5_count := goodIn_ca (goodIn_r _ [7, 8, 9, 10, 11, 12, 13, 14, 15, 16, 17, 18, 19, 20, 21, 22, 23, 24, 25, 26, 27, 28, 29, 30, 31, 32, 33, 34, 35, 36, 37, 38, 39, 40, 41, 42, 43, 44, 45, 46, 47, 48, 49, 50, 137, 138, 139, 140, 141, 142, 143, 144, 145, 146, 147, 148, 149, 150, 151, 152, 153, 154, 155, 156, 157, 158, 159, 160, 161, 162, 163, 164, 165, 166, 167] (by decide +kernel) (by decide +kernel)) (goodIn_sub (fun _ h => List.mem_cons_of_mem _ (List.mem_append_left _ (List.mem_append_right _ h))) (by decide +kernel))
set_option maxRecDepth 20000 in
theorem gX5_digest_X5_count : GoodIn wsX5_digest (wsV RX5 314 RX5 yX5_count wsX5_count) := goodIn_app (goodIn_of _ (by decide +kernel)) ggX5_digest_X5_count
set_option maxRecDepth 20000 in
theorem ggX5_digest_X5_digestPlayers : GoodIn wsX5_digest wsX5_digestPlayers := goodIn_ca (goodIn_ca (goodIn_r _ [54, 10, 12, 2, 55, 56, 57, 6, 58, 8, 9, 59, 60, 61, 62, 63, 64, 65, 66, 21, 67, 68, 69, 70, 71, 72, 73, 74, 23, 24, 25, 26, 27, 28, 29, 75, 76, 77, 78, 79, 80, 81, 82, 83, 84, 85, 34, 86, 87, 88, 89, 90, 91, 35, 92, 93, 94, 95, 137, 138, 139, 140, 141, 142, 143, 144, 145, 146, 147, 148, 149, 150, 151, 152, 168, 169, 170, 171, 172, 153, 154, 155, 156, 157, 158, 159, 160, 161, 162, 173, 174, 175, 163, 164, 165, 166, 167] (by decide +kernel) (by decide +kernel)) (goodIn_sub (fun _ h => List.mem_cons_of_mem _ (List.mem_append_left _ (List.mem_append_right _ h))) (by decide +kernel))) (goodIn_sub (fun _ h => List.mem_cons_of_mem _ (List.mem_append_right _ h)) (by decide +kernel))
set_option maxRecDepth 20000 in
theorem gX5_digest_X5_digestPlayers : GoodIn wsX5_digest (wsV RX5 317 RX5 yX5_digestPlayers wsX5_digestPlayers) := goodIn_app (goodIn_of _ (by decide +kernel)) ggX5_digest_X5_digestPlayers
set_option maxRecDepth 20000 in
theorem ggX5_digest_X5_digestLoans : GoodIn wsX5_digest wsX5_digestLoans := goodIn_ca (goodIn_ca (goodIn_r _ [99, 10, 14, 2, 100, 101, 102, 6, 103, 8, 9, 104, 105, 106, 107, 108, 109, 110, 111, 21, 112, 68, 113, 34, 137, 138, 139, 140, 141, 142, 143, 144, 145, 146, 147, 148, 149, 150, 151, 152, 163, 164, 165, 166, 167] (by decide +kernel) (by decide +kernel)) (goodIn_sub (fun _ h => List.mem_cons_of_mem _ (List.mem_append_left _ (List.mem_append_right _ h))) (by decide +kernel))) (goodIn_sub (fun _ h => List.mem_cons_of_mem _ (List.mem_append_right _ h)) (by decide +kernel))
set_option maxRecDepth 20000 in
theorem gX5_digest_X5_digestLoans : GoodIn wsX5_digest (wsV RX5 321 RX5 yX5_digestLoans wsX5_digestLoans) := goodIn_app (goodIn_of _ (by decide +kernel)) ggX5_digest_X5_digestLoans
set_option maxRecDepth 20000 in
theorem ggX5_digest_X5_digestGames : GoodIn wsX5_digest wsX5_digestGames := goodIn_ca (goodIn_ca (goodIn_r _ [117, 10, 13, 2, 118, 119, 120, 6, 121, 8, 9, 122, 123, 124, 125, 126, 127, 128, 129, 130, 131, 132, 133, 134, 21, 135, 68, 136, 23, 137, 138, 139, 140, 141, 142, 143, 144, 145, 146, 147, 148, 149, 150, 151, 152, 153, 154, 155, 156, 157, 158, 159, 160, 161, 162, 173, 174, 175] (by decide +kernel) (by decide +kernel)) (goodIn_sub (fun _ h => List.mem_cons_of_mem _ (List.mem_append_left _ (List.mem_append_right _ h))) (by decide +kernel))) (goodIn_sub (fun _ h => List.mem_cons_of_mem _ (List.mem_append_right _ h)) (by decide +kernel))
set_option maxRecDepth 20000 in
theorem gX5_digest_X5_digestGames : GoodIn wsX5_digest (wsV RX5 324 RX5 yX5_digestGames wsX5_digestGames) := goodIn_app (goodIn_of _ (by decide +kernel)) ggX5_digest_X5_digestGames
set_option maxRecDepth 20000 in
theorem ggX5_digestPlayers_X5_player : GoodIn wsX5_digestPlayers wsX5_player := goodIn_ca (goodIn_ca (goodIn_r _ [8, 9, 10, 1, 11, 12, 13, 14, 15, 16, 17, 18, 19, 20, 21, 22, 23, 24, 25, 26, 27, 28, 29, 30, 31, 32, 33, 34, 35, 36, 37, 38, 39, 40, 41, 42, 43, 44, 45, 46, 47, 48, 49, 50, 51, 52, 53, 54, 55, 56, 57, 58, 59, 74, 75, 76, 77, 78, 60, 61, 62, 63, 64, 65, 66, 67, 68, 69, 70, 71, 72, 73, 79, 80, 81, 82, 83, 84, 85, 86, 87, 88, 89, 90, 91, 92, 93, 94, 95, 96] (by decide +kernel) (by decide +kernel)) (goodIn_sub (fun _ h => List.mem_cons_of_mem _ (List.mem_append_left _ (List.mem_append_right _ h))) (by decide +kernel))) (goodIn_sub (fun _ h => List.mem_cons_of_mem _ (List.mem_append_right _ h)) (by decide +kernel))
set_option maxRecDepth 20000 in
theorem gX5_digestPlayers_X5_player : GoodIn wsX5_digestPlayers (wsV RX5 327 RX5 yX5_player wsX5_player) := goodIn_app (goodIn_of _ (by decide +kernel)) ggX5_digestPlayers_X5_player
set_option maxRecDepth 20000 in
theorem ggX5_digestLoans_X5_loan : GoodIn wsX5_digestLoans wsX5_loan := goodIn_ca (goodIn_ca (goodIn_r _ [8, 9, 10, 1, 11, 12, 13, 14, 15, 16, 17, 18, 19, 20, 21, 22, 23, 24, 25, 40, 41, 42, 43, 44, 26, 27, 28, 29, 30, 31, 32, 33, 34, 35, 36, 37, 38, 39] (by decide +kernel) (by decide +kernel)) (goodIn_sub (fun _ h => List.mem_cons_of_mem _ (List.mem_append_left _ (List.mem_append_right _ h))) (by decide +kernel))) (goodIn_sub (fun _ h => List.mem_cons_of_mem _ (List.mem_append_right _ h)) (by decide +kernel))
set_option maxRecDepth 20000 in
theorem gX5_digestLoans_X5_loan : GoodIn wsX5_digestLoans (wsV RX5 329 RX5 yX5_loan wsX5_loan) := goodIn_app (goodIn_of _ (by decide +kernel)) ggX5_digestLoans_X5_loan
set_option maxRecDepth 20000 in
theorem ggX5_digestGames_X5_game : GoodIn wsX5_digestGames wsX5_game := goodIn_ca (goodIn_ca (goodIn_r _ [8, 9, 10, 1, 11, 12, 13, 14, 15, 16, 17, 18, 19, 20, 21, 22, 23, 24, 25, 26, 27, 28, 29, 30, 45, 46, 47, 48, 49, 50, 51, 52, 53, 54, 55, 56, 57, 31, 32, 33, 34, 35, 36, 37, 38, 39, 40, 41, 42, 43, 44] (by decide +kernel) (by decide +kernel)) (goodIn_sub (fun _ h => List.mem_cons_of_mem _ (List.mem_append_left _ (List.mem_append_right _ h))) (by decide +kernel))) (goodIn_sub (fun _ h => List.mem_cons_of_mem _ (List.mem_append_right _ h)) (by decide +kernel))
set_option maxRecDepth 20000 in
theorem gX5_digestGames_X5_game : GoodIn wsX5_digestGames (wsV RX5 332 RX5 yX5_game wsX5_game) := goodIn_app (goodIn_of _ (by decide +kernel)) ggX5_digestGames_X5_game
set_option maxRecDepth 20000 in
theorem ggX6_become_X6_copy : GoodIn wsX6_become wsX6_copy := goodIn_r _ [31, 32, 33, 34, 35] (by decide +kernel) (by decide +kernel)
set_option maxRecDepth 20000 in
theorem gX6_become_X6_copy : GoodIn wsX6_become (va_wsS RX6 101 yX6_copy wsX6_copy) := goodIn_app (goodIn_of _ (by decide +kernel)) ggX6_become_X6_copy
set_option maxRecDepth 20000 in
theorem ggX6_pass_X6_runs : GoodIn wsX6_pass wsX6_runs := goodIn_r _ [21, 22, 51, 52, 53, 54, 55, 56, 57, 58, 59, 60, 61, 62, 63, 64, 65, 66, 67, 68, 69, 70, 71, 72, 73, 74, 75, 76, 77] (by decide +kernel) (by decide +kernel)
set_option maxRecDepth 20000 in
theorem gX6_pass_X6_runs : GoodIn wsX6_pass (wsV RX6 105 RX6 yX6_runs wsX6_runs) := goodIn_app (goodIn_of _ (by decide +kernel)) ggX6_pass_X6_runs
set_option maxRecDepth 20000 in
theorem ggX6_pass_X6_win : GoodIn wsX6_pass wsX6_win := goodIn_r _ [26, 22, 27, 28, 29, 30, 31, 32, 51, 52, 53, 54, 55, 56, 57, 58, 59, 60, 61, 62, 63, 64, 65, 66, 67, 68, 69, 70, 71, 72, 73, 74, 75, 76, 77] (by decide +kernel) (by decide +kernel)
set_option maxRecDepth 20000 in
theorem gX6_pass_X6_win : GoodIn wsX6_pass (wsV RX6 109 RX6 yX6_win wsX6_win) := goodIn_app (goodIn_of _ (by decide +kernel)) ggX6_pass_X6_win
set_option maxRecDepth 20000 in
theorem ggX6_pass_X6_collect : GoodIn wsX6_pass wsX6_collect := goodIn_r _ [36, 37, 9, 38, 12, 13, 14, 15, 2, 30, 5, 8, 17, 18, 19, 20, 21, 22, 39, 40, 41, 42, 43, 44, 51, 52, 53, 54, 55, 56, 57, 58, 59, 60, 61, 62, 63, 64, 65, 66, 67, 68, 69, 70, 71, 72, 73, 74, 75, 76, 77] (by decide +kernel) (by decide +kernel)
set_option maxRecDepth 20000 in
theorem gX6_pass_X6_collect : GoodIn wsX6_pass (wsV RX6 119 RX6 yX6_collect wsX6_collect) := goodIn_app (goodIn_of _ (by decide +kernel)) ggX6_pass_X6_collect
set_option maxRecDepth 20000 in
theorem ggX6_pass_X6_look : GoodIn wsX6_pass wsX6_look := goodIn_r _ [48, 49, 5, 12, 13, 14, 15, 50, 30, 51, 52, 53, 54, 55, 56, 57, 58, 59, 60, 61, 62, 63, 64, 65, 66, 67, 68, 69, 70, 71, 72, 73, 74, 75, 76, 77] (by decide +kernel) (by decide +kernel)
set_option maxRecDepth 20000 in
theorem gX6_pass_X6_look : GoodIn wsX6_pass (wsV RX6 123 RX6 yX6_look wsX6_look) := goodIn_app (goodIn_of _ (by decide +kernel)) ggX6_pass_X6_look
set_option maxRecDepth 20000 in
theorem ggX6_collect_X6_runs : GoodIn wsX6_collect wsX6_runs := goodIn_r _ [16, 17, 24, 25, 26, 27, 28, 29, 30, 31, 32, 33, 34, 35, 36, 37, 38, 39, 40, 41, 42, 43, 44, 45, 46, 47, 48, 49, 50] (by decide +kernel) (by decide +kernel)
set_option maxRecDepth 20000 in
theorem gX6_collect_X6_runs : GoodIn wsX6_collect (wsV RX6 105 RX6 yX6_runs wsX6_runs) := goodIn_app (goodIn_of _ (by decide +kernel)) ggX6_collect_X6_runs
set_option maxRecDepth 20000 in
theorem ggX6_collect_X6_goBack : GoodIn wsX6_collect wsX6_goBack := goodIn_r _ [21, 22, 23, 24, 25, 26, 27, 28, 29, 30, 31, 32, 33, 34, 35, 36, 37, 38, 39, 40, 41, 42, 43, 44, 45, 46, 47, 48, 49, 50] (by decide +kernel) (by decide +kernel)
set_option maxRecDepth 20000 in
theorem gX6_collect_X6_goBack : GoodIn wsX6_collect (wsV RX6 126 RX6 yX6_goBack wsX6_goBack) := goodIn_app (goodIn_of _ (by decide +kernel)) ggX6_collect_X6_goBack
set_option maxRecDepth 20000 in
theorem ggX7_init_X6_init : GoodIn wsX7_init wsX6_init := goodIn_r _ [10, 11, 2, 3, 12, 13, 14, 15, 16, 17, 18, 19, 20, 21, 22, 23, 24, 25, 26, 27, 28, 29, 30, 31, 32, 33, 34, 35, 36, 37, 38, 39, 40, 41, 42, 43, 44, 45, 46, 47, 48, 49, 50, 51, 52, 53, 54, 55, 56, 57, 58, 59, 60, 61] (by decide +kernel) (by decide +kernel)
set_option maxRecDepth 20000 in
theorem gX7_init_X6_init_n9 : GoodIn wsX7_init (wsX6_init) := ggX7_init_X6_init
set_option maxRecDepth 20000 in
theorem ggX7_addPlayer_X7_isIn : GoodIn wsX7_addPlayer wsX7_isIn := goodIn_r _ [7] (by decide +kernel) (by decide +kernel)
set_option maxRecDepth 20000 in
theorem gX7_addPlayer_X7_isIn : GoodIn wsX7_addPlayer (va_wsS RX7 24 yX7_isIn wsX7_isIn) := goodIn_app (goodIn_of _ (by decide +kernel)) ggX7_addPlayer_X7_isIn
set_option maxRecDepth 20000 in
theorem ggX7_addPlayer_X7_no : GoodIn wsX7_addPlayer wsX7_no := goodIn_r _ [11, 1, 12, 13, 14] (by decide +kernel) (by decide +kernel)
set_option maxRecDepth 20000 in
theorem gX7_addPlayer_X7_no : GoodIn wsX7_addPlayer (wsV RX7 28 RX7 yX7_no wsX7_no) := goodIn_app (goodIn_of _ (by decide +kernel)) ggX7_addPlayer_X7_no
set_option maxRecDepth 20000 in
theorem ggX7_isPlayer_X7_isIn : GoodIn wsX7_isPlayer wsX7_isIn := goodIn_r _ [5] (by decide +kernel) (by decide +kernel)
set_option maxRecDepth 20000 in
theorem gX7_isPlayer_X7_isIn : GoodIn wsX7_isPlayer (va_wsS RX7 24 yX7_isIn wsX7_isIn) := goodIn_app (goodIn_of _ (by decide +kernel)) ggX7_isPlayer_X7_isIn
set_option maxRecDepth 20000 in
theorem ggX7_running_X6_runs : GoodIn wsX7_running wsX6_runs := goodIn_r _ [6, 7, 11, 12, 13, 14, 15, 16, 17, 18, 19, 20, 21, 22, 23, 24, 25, 26, 27, 28, 29, 30, 31, 32, 33, 34, 35, 36, 37] (by decide +kernel) (by decide +kernel)
set_option maxRecDepth 20000 in
theorem gX7_running_X6_runs : GoodIn wsX7_running (wsV RX7 54 RX6 yX6_runs wsX6_runs) := goodIn_app (goodIn_of _ (by decide +kernel)) ggX7_running_X6_runs
set_option maxRecDepth 20000 in
theorem ggX7_playerTold_X7_running : GoodIn wsX7_playerTold wsX7_running := goodIn_r _ [6, 1, 7, 8, 9, 10, 11, 12, 21, 22, 23, 24, 25, 26, 27, 28, 29, 30, 31, 32, 33, 34, 35, 36, 37, 38, 39, 40, 41, 42, 43, 44, 45, 46, 47, 48, 49, 50] (by decide +kernel) (by decide +kernel)
set_option maxRecDepth 20000 in
theorem gX7_playerTold_X7_running : GoodIn wsX7_playerTold (wsV RX7 64 RX7 yX7_running wsX7_running) := goodIn_app (goodIn_of _ (by decide +kernel)) ggX7_playerTold_X7_running
set_option maxRecDepth 20000 in
theorem ggX7_playerTold_X7_owedBy : GoodIn wsX7_playerTold wsX7_owedBy := goodIn_r _ [16, 1, 21, 22, 23, 24, 25, 26, 27, 28, 29, 30, 31, 32, 33, 34, 35, 36, 37, 38, 39, 40, 41, 42, 43, 44, 45, 46, 47, 48, 49, 50] (by decide +kernel) (by decide +kernel)
set_option maxRecDepth 20000 in
theorem gX7_playerTold_X7_owedBy : GoodIn wsX7_playerTold (wsV RX7 73 RX7 yX7_owedBy wsX7_owedBy) := goodIn_app (goodIn_of _ (by decide +kernel)) ggX7_playerTold_X7_owedBy
set_option maxRecDepth 20000 in
theorem ggX7_playerTold_X7_loansOf : GoodIn wsX7_playerTold wsX7_loansOf := goodIn_r _ [20, 1, 21, 22, 23, 24, 25, 26, 27, 28, 29, 30, 31, 32, 33, 34, 35, 36, 37, 38, 39, 40, 41, 42, 43, 44, 45, 46, 47, 48, 49, 50] (by decide +kernel) (by decide +kernel)
set_option maxRecDepth 20000 in
theorem gX7_playerTold_X7_loansOf : GoodIn wsX7_playerTold (wsV RX7 76 RX7 yX7_loansOf wsX7_loansOf) := goodIn_app (goodIn_of _ (by decide +kernel)) ggX7_playerTold_X7_loansOf
set_option maxRecDepth 20000 in
theorem ggX7_player_X7_isPlayer : GoodIn wsX7_player wsX7_isPlayer := goodIn_r _ [6, 7, 8, 9, 5, 10, 37, 38, 39, 40, 41, 42, 43, 44, 45, 46, 47, 48, 49, 50, 51, 52, 53, 54, 55, 56, 57, 58, 59, 60, 61, 62, 63, 64, 65, 66] (by decide +kernel) (by decide +kernel)
set_option maxRecDepth 20000 in
theorem gX7_player_X7_isPlayer : GoodIn wsX7_player (wsV RX7 83 RX7 yX7_isPlayer wsX7_isPlayer) := goodIn_app (goodIn_of _ (by decide +kernel)) ggX7_player_X7_isPlayer
set_option maxRecDepth 20000 in
theorem ggX7_player_X7_isIn : GoodIn wsX7_player wsX7_isIn := goodIn_r _ [10] (by decide +kernel) (by decide +kernel)
set_option maxRecDepth 20000 in
theorem gX7_player_X7_isIn : GoodIn wsX7_player (va_wsS RX7 24 yX7_isIn wsX7_isIn) := goodIn_app (goodIn_of _ (by decide +kernel)) ggX7_player_X7_isIn
set_option maxRecDepth 20000 in
theorem ggX7_player_X7_playerTold : GoodIn wsX7_player wsX7_playerTold := goodIn_r _ [14, 7, 15, 16, 17, 5, 18, 19, 20, 21, 22, 23, 24, 25, 26, 27, 28, 29, 30, 31, 32, 37, 38, 39, 40, 41, 42, 43, 44, 45, 46, 47, 48, 49, 50, 51, 52, 53, 54, 55, 56, 57, 58, 59, 60, 61, 62, 63, 64, 65, 66] (by decide +kernel) (by decide +kernel)
set_option maxRecDepth 20000 in
theorem gX7_player_X7_playerTold : GoodIn wsX7_player (wsV RX7 86 RX7 yX7_playerTold wsX7_playerTold) := goodIn_app (goodIn_of _ (by decide +kernel)) ggX7_player_X7_playerTold
set_option maxRecDepth 20000 in
theorem ggX7_player_X7_no : GoodIn wsX7_player wsX7_no := goodIn_r _ [36, 1, 37, 38, 39] (by decide +kernel) (by decide +kernel)
set_option maxRecDepth 20000 in
theorem gX7_player_X7_no : GoodIn wsX7_player (wsV RX7 28 RX7 yX7_no wsX7_no) := goodIn_app (goodIn_of _ (by decide +kernel)) ggX7_player_X7_no
set_option maxRecDepth 20000 in
theorem ggX7_buy_X7_isPlayer : GoodIn wsX7_buy wsX7_isPlayer := goodIn_r _ [7, 2, 8, 9, 6, 10, 30, 31, 32, 33, 34, 35, 36, 37, 38, 39, 40, 41, 42, 43, 44, 45, 46, 47, 48, 49, 50, 51, 52, 53, 54, 55, 56, 57, 58, 59] (by decide +kernel) (by decide +kernel)
set_option maxRecDepth 20000 in
theorem gX7_buy_X7_isPlayer : GoodIn wsX7_buy (wsV RX7 83 RX7 yX7_isPlayer wsX7_isPlayer) := goodIn_app (goodIn_of _ (by decide +kernel)) ggX7_buy_X7_isPlayer
set_option maxRecDepth 20000 in
theorem ggX7_buy_X7_no : GoodIn wsX7_buy wsX7_no := goodIn_r _ [14, 1, 30, 31, 32] (by decide +kernel) (by decide +kernel)
set_option maxRecDepth 20000 in
theorem gX7_buy_X7_no : GoodIn wsX7_buy (wsV RX7 28 RX7 yX7_no wsX7_no) := goodIn_app (goodIn_of _ (by decide +kernel)) ggX7_buy_X7_no
set_option maxRecDepth 20000 in
theorem ggX7_buy_X7_isIn : GoodIn wsX7_buy wsX7_isIn := goodIn_r _ [10] (by decide +kernel) (by decide +kernel)
set_option maxRecDepth 20000 in
theorem gX7_buy_X7_isIn : GoodIn wsX7_buy (va_wsS RX7 24 yX7_isIn wsX7_isIn) := goodIn_app (goodIn_of _ (by decide +kernel)) ggX7_buy_X7_isIn
set_option maxRecDepth 20000 in
theorem ggX7_buy_X6_price : GoodIn wsX7_buy wsX6_price := goodIn_r _ [19, 20, 21, 22, 23, 24, 33, 34, 35, 36, 37, 38, 39, 40, 41, 42, 43, 44, 45, 46, 47, 48, 49, 50, 51, 52, 53, 54, 55, 56, 57, 58, 59] (by decide +kernel) (by decide +kernel)
set_option maxRecDepth 20000 in
theorem gX7_buy_X6_price : GoodIn wsX7_buy (wsV RX7 89 RX6 yX6_price wsX6_price) := goodIn_app (goodIn_of _ (by decide +kernel)) ggX7_buy_X6_price
set_option maxRecDepth 20000 in
theorem ggX7_buy_X6_goBack : GoodIn wsX7_buy wsX6_goBack := goodIn_r _ [28, 29, 20, 33, 34, 35, 36, 37, 38, 39, 40, 41, 42, 43, 44, 45, 46, 47, 48, 49, 50, 51, 52, 53, 54, 55, 56, 57, 58, 59] (by decide +kernel) (by decide +kernel)
set_option maxRecDepth 20000 in
theorem gX7_buy_X6_goBack : GoodIn wsX7_buy (wsV RX7 99 RX6 yX6_goBack wsX6_goBack) := goodIn_app (goodIn_of _ (by decide +kernel)) ggX7_buy_X6_goBack
set_option maxRecDepth 20000 in
theorem ggX7_sell_X7_isPlayer : GoodIn wsX7_sell wsX7_isPlayer := goodIn_r _ [7, 2, 8, 9, 6, 10, 30, 31, 32, 33, 34, 35, 36, 37, 38, 39, 40, 41, 42, 43, 44, 45, 46, 47, 48, 49, 50, 51, 52, 53, 54, 55, 56, 57, 58, 59] (by decide +kernel) (by decide +kernel)
set_option maxRecDepth 20000 in
theorem gX7_sell_X7_isPlayer : GoodIn wsX7_sell (wsV RX7 83 RX7 yX7_isPlayer wsX7_isPlayer) := goodIn_app (goodIn_of _ (by decide +kernel)) ggX7_sell_X7_isPlayer
set_option maxRecDepth 20000 in
theorem ggX7_sell_X7_no : GoodIn wsX7_sell wsX7_no := goodIn_r _ [14, 1, 30, 31, 32] (by decide +kernel) (by decide +kernel)
set_option maxRecDepth 20000 in
theorem gX7_sell_X7_no : GoodIn wsX7_sell (wsV RX7 28 RX7 yX7_no wsX7_no) := goodIn_app (goodIn_of _ (by decide +kernel)) ggX7_sell_X7_no
set_option maxRecDepth 20000 in
theorem ggX7_sell_X7_isIn : GoodIn wsX7_sell wsX7_isIn := goodIn_r _ [10] (by decide +kernel) (by decide +kernel)
set_option maxRecDepth 20000 in
theorem gX7_sell_X7_isIn : GoodIn wsX7_sell (va_wsS RX7 24 yX7_isIn wsX7_isIn) := goodIn_app (goodIn_of _ (by decide +kernel)) ggX7_sell_X7_isIn
set_option maxRecDepth 20000 in
theorem ggX7_sell_X6_price : GoodIn wsX7_sell wsX6_price := goodIn_r _ [19, 20, 21, 22, 23, 24, 33, 34, 35, 36, 37, 38, 39, 40, 41, 42, 43, 44, 45, 46, 47, 48, 49, 50, 51, 52, 53, 54, 55, 56, 57, 58, 59] (by decide +kernel) (by decide +kernel)
set_option maxRecDepth 20000 in
theorem gX7_sell_X6_price : GoodIn wsX7_sell (wsV RX7 89 RX6 yX6_price wsX6_price) := goodIn_app (goodIn_of _ (by decide +kernel)) ggX7_sell_X6_price
set_option maxRecDepth 20000 in
theorem ggX7_sell_X6_goBack : GoodIn wsX7_sell wsX6_goBack := goodIn_r _ [28, 29, 20, 33, 34, 35, 36, 37, 38, 39, 40, 41, 42, 43, 44, 45, 46, 47, 48, 49, 50, 51, 52, 53, 54, 55, 56, 57, 58, 59] (by decide +kernel) (by decide +kernel)
set_option maxRecDepth 20000 in
theorem gX7_sell_X6_goBack : GoodIn wsX7_sell (wsV RX7 99 RX6 yX6_goBack wsX6_goBack) := goodIn_app (goodIn_of _ (by decide +kernel)) ggX7_sell_X6_goBack
set_option maxRecDepth 20000 in
theorem ggX7_borrow_X7_isPlayer : GoodIn wsX7_borrow wsX7_isPlayer := goodIn_r _ [7, 2, 8, 9, 6, 10, 26, 27, 28, 29, 30, 31, 32, 33, 34, 35, 36, 37, 38, 39, 40, 41, 42, 43, 44, 45, 46, 47, 48, 49, 50, 51, 52, 53, 54, 55] (by decide +kernel) (by decide +kernel)
set_option maxRecDepth 20000 in
theorem gX7_borrow_X7_isPlayer : GoodIn wsX7_borrow (wsV RX7 83 RX7 yX7_isPlayer wsX7_isPlayer) := goodIn_app (goodIn_of _ (by decide +kernel)) ggX7_borrow_X7_isPlayer
set_option maxRecDepth 20000 in
theorem ggX7_borrow_X7_no : GoodIn wsX7_borrow wsX7_no := goodIn_r _ [14, 1, 26, 27, 28] (by decide +kernel) (by decide +kernel)
set_option maxRecDepth 20000 in
theorem gX7_borrow_X7_no : GoodIn wsX7_borrow (wsV RX7 28 RX7 yX7_no wsX7_no) := goodIn_app (goodIn_of _ (by decide +kernel)) ggX7_borrow_X7_no
set_option maxRecDepth 20000 in
theorem ggX7_borrow_X7_isIn : GoodIn wsX7_borrow wsX7_isIn := goodIn_r _ [10] (by decide +kernel) (by decide +kernel)
set_option maxRecDepth 20000 in
theorem gX7_borrow_X7_isIn : GoodIn wsX7_borrow (va_wsS RX7 24 yX7_isIn wsX7_isIn) := goodIn_app (goodIn_of _ (by decide +kernel)) ggX7_borrow_X7_isIn
set_option maxRecDepth 20000 in
theorem ggX7_borrow_X7_loansOf : GoodIn wsX7_borrow wsX7_loansOf := goodIn_r _ [18, 2, 26, 27, 28, 29, 30, 31, 32, 33, 34, 35, 36, 37, 38, 39, 40, 41, 42, 43, 44, 45, 46, 47, 48, 49, 50, 51, 52, 53, 54, 55] (by decide +kernel) (by decide +kernel)
set_option maxRecDepth 20000 in
theorem gX7_borrow_X7_loansOf : GoodIn wsX7_borrow (wsV RX7 76 RX7 yX7_loansOf wsX7_loansOf) := goodIn_app (goodIn_of _ (by decide +kernel)) ggX7_borrow_X7_loansOf
set_option maxRecDepth 20000 in
theorem ggX7_borrow_X6_goBack : GoodIn wsX7_borrow wsX6_goBack := goodIn_r _ [23, 24, 25, 29, 30, 31, 32, 33, 34, 35, 36, 37, 38, 39, 40, 41, 42, 43, 44, 45, 46, 47, 48, 49, 50, 51, 52, 53, 54, 55] (by decide +kernel) (by decide +kernel)
set_option maxRecDepth 20000 in
theorem gX7_borrow_X6_goBack : GoodIn wsX7_borrow (wsV RX7 99 RX6 yX6_goBack wsX6_goBack) := goodIn_app (goodIn_of _ (by decide +kernel)) ggX7_borrow_X6_goBack
set_option maxRecDepth 20000 in
theorem ggX7_isLoan_X7_isIn : GoodIn wsX7_isLoan wsX7_isIn := goodIn_r _ [5] (by decide +kernel) (by decide +kernel)
set_option maxRecDepth 20000 in
theorem gX7_isLoan_X7_isIn : GoodIn wsX7_isLoan (va_wsS RX7 24 yX7_isIn wsX7_isIn) := goodIn_app (goodIn_of _ (by decide +kernel)) ggX7_isLoan_X7_isIn
set_option maxRecDepth 20000 in
theorem ggX7_repay_X7_isLoan : GoodIn wsX7_repay wsX7_isLoan := goodIn_r _ [12, 3, 13, 14, 11, 15, 27, 28, 29, 30, 31, 32, 33, 34, 35, 36, 37, 38, 39, 40, 41, 42, 43, 44, 45, 46, 47, 48, 49, 50, 51, 52, 53, 54, 55, 56] (by decide +kernel) (by decide +kernel)
set_option maxRecDepth 20000 in
theorem gX7_repay_X7_isLoan : GoodIn wsX7_repay (wsV RX7 112 RX7 yX7_isLoan wsX7_isLoan) := goodIn_app (goodIn_of _ (by decide +kernel)) ggX7_repay_X7_isLoan
set_option maxRecDepth 20000 in
theorem ggX7_repay_X7_no : GoodIn wsX7_repay wsX7_no := goodIn_r _ [19, 1, 27, 28, 29] (by decide +kernel) (by decide +kernel)
set_option maxRecDepth 20000 in
theorem gX7_repay_X7_no : GoodIn wsX7_repay (wsV RX7 28 RX7 yX7_no wsX7_no) := goodIn_app (goodIn_of _ (by decide +kernel)) ggX7_repay_X7_no
set_option maxRecDepth 20000 in
theorem ggX7_repay_X7_isIn : GoodIn wsX7_repay wsX7_isIn := goodIn_r _ [15] (by decide +kernel) (by decide +kernel)
set_option maxRecDepth 20000 in
theorem gX7_repay_X7_isIn : GoodIn wsX7_repay (va_wsS RX7 24 yX7_isIn wsX7_isIn) := goodIn_app (goodIn_of _ (by decide +kernel)) ggX7_repay_X7_isIn
set_option maxRecDepth 20000 in
theorem ggX7_repay_X6_goBack : GoodIn wsX7_repay wsX6_goBack := goodIn_r _ [24, 25, 26, 30, 31, 32, 33, 34, 35, 36, 37, 38, 39, 40, 41, 42, 43, 44, 45, 46, 47, 48, 49, 50, 51, 52, 53, 54, 55, 56] (by decide +kernel) (by decide +kernel)
set_option maxRecDepth 20000 in
theorem gX7_repay_X6_goBack : GoodIn wsX7_repay (wsV RX7 99 RX6 yX6_goBack wsX6_goBack) := goodIn_app (goodIn_of _ (by decide +kernel)) ggX7_repay_X6_goBack
set_option maxRecDepth 20000 in
theorem ggX7_loan_X7_isLoan : GoodIn wsX7_loan wsX7_isLoan := goodIn_r _ [6, 7, 8, 9, 5, 10, 20, 21, 22, 23, 24, 25, 26, 27, 28, 29, 30, 31, 32, 33, 34, 35, 36, 37, 38, 39, 40, 41, 42, 43, 44, 45, 46, 47, 48, 49] (by decide +kernel) (by decide +kernel)
set_option maxRecDepth 20000 in
theorem gX7_loan_X7_isLoan : GoodIn wsX7_loan (wsV RX7 112 RX7 yX7_isLoan wsX7_isLoan) := goodIn_app (goodIn_of _ (by decide +kernel)) ggX7_loan_X7_isLoan
set_option maxRecDepth 20000 in
theorem ggX7_loan_X7_isIn : GoodIn wsX7_loan wsX7_isIn := goodIn_r _ [10] (by decide +kernel) (by decide +kernel)
set_option maxRecDepth 20000 in
theorem gX7_loan_X7_isIn : GoodIn wsX7_loan (va_wsS RX7 24 yX7_isIn wsX7_isIn) := goodIn_app (goodIn_of _ (by decide +kernel)) ggX7_loan_X7_isIn
set_option maxRecDepth 20000 in
theorem ggX7_loan_X7_loanTold : GoodIn wsX7_loan wsX7_loanTold := goodIn_r _ [14, 15, 7, 20, 21, 22, 23, 24, 25, 26, 27, 28, 29, 30, 31, 32, 33, 34, 35, 36, 37, 38, 39, 40, 41, 42, 43, 44, 45, 46, 47, 48, 49] (by decide +kernel) (by decide +kernel)
set_option maxRecDepth 20000 in
theorem gX7_loan_X7_loanTold : GoodIn wsX7_loan (wsV RX7 120 RX7 yX7_loanTold wsX7_loanTold) := goodIn_app (goodIn_of _ (by decide +kernel)) ggX7_loan_X7_loanTold
set_option maxRecDepth 20000 in
theorem ggX7_loan_X7_no : GoodIn wsX7_loan wsX7_no := goodIn_r _ [19, 1, 20, 21, 22] (by decide +kernel) (by decide +kernel)
set_option maxRecDepth 20000 in
theorem gX7_loan_X7_no : GoodIn wsX7_loan (wsV RX7 28 RX7 yX7_no wsX7_no) := goodIn_app (goodIn_of _ (by decide +kernel)) ggX7_loan_X7_no
set_option maxRecDepth 20000 in
theorem ggX7_begin_X7_isPlayer : GoodIn wsX7_begin wsX7_isPlayer := goodIn_r _ [7, 2, 8, 9, 6, 10, 15, 16, 17, 18, 19, 20, 21, 22, 23, 24, 25, 26, 27, 28, 29, 30, 31, 32, 33, 34, 35, 36, 37, 38, 39, 40, 41, 42, 43, 44] (by decide +kernel) (by decide +kernel)
set_option maxRecDepth 20000 in
theorem gX7_begin_X7_isPlayer : GoodIn wsX7_begin (wsV RX7 83 RX7 yX7_isPlayer wsX7_isPlayer) := goodIn_app (goodIn_of _ (by decide +kernel)) ggX7_begin_X7_isPlayer
set_option maxRecDepth 20000 in
theorem ggX7_begin_X7_no : GoodIn wsX7_begin wsX7_no := goodIn_r _ [14, 1, 15, 16, 17] (by decide +kernel) (by decide +kernel)
set_option maxRecDepth 20000 in
theorem gX7_begin_X7_no : GoodIn wsX7_begin (wsV RX7 28 RX7 yX7_no wsX7_no) := goodIn_app (goodIn_of _ (by decide +kernel)) ggX7_begin_X7_no
set_option maxRecDepth 20000 in
theorem ggX7_begin_X7_isIn : GoodIn wsX7_begin wsX7_isIn := goodIn_r _ [10] (by decide +kernel) (by decide +kernel)
set_option maxRecDepth 20000 in
theorem gX7_begin_X7_isIn : GoodIn wsX7_begin (va_wsS RX7 24 yX7_isIn wsX7_isIn) := goodIn_app (goodIn_of _ (by decide +kernel)) ggX7_begin_X7_isIn
set_option maxRecDepth 20000 in
theorem ggX7_isGame_X7_isIn : GoodIn wsX7_isGame wsX7_isIn := goodIn_r _ [5] (by decide +kernel) (by decide +kernel)
set_option maxRecDepth 20000 in
theorem gX7_isGame_X7_isIn : GoodIn wsX7_isGame (va_wsS RX7 24 yX7_isIn wsX7_isIn) := goodIn_app (goodIn_of _ (by decide +kernel)) ggX7_isGame_X7_isIn
set_option maxRecDepth 20000 in
theorem ggX7_press_X7_isGame : GoodIn wsX7_press wsX7_isGame := goodIn_r _ [7, 2, 8, 9, 6, 10, 21, 22, 23, 24, 25, 26, 27, 28, 29, 30, 31, 32, 33, 34, 35, 36, 37, 38, 39, 40, 41, 42, 43, 44, 45, 46, 47, 48, 49, 50] (by decide +kernel) (by decide +kernel)
set_option maxRecDepth 20000 in
theorem gX7_press_X7_isGame : GoodIn wsX7_press (wsV RX7 135 RX7 yX7_isGame wsX7_isGame) := goodIn_app (goodIn_of _ (by decide +kernel)) ggX7_press_X7_isGame
set_option maxRecDepth 20000 in
theorem ggX7_press_X7_no : GoodIn wsX7_press wsX7_no := goodIn_r _ [14, 1, 21, 22, 23] (by decide +kernel) (by decide +kernel)
set_option maxRecDepth 20000 in
theorem gX7_press_X7_no : GoodIn wsX7_press (wsV RX7 28 RX7 yX7_no wsX7_no) := goodIn_app (goodIn_of _ (by decide +kernel)) ggX7_press_X7_no
set_option maxRecDepth 20000 in
theorem ggX7_press_X6_runs : GoodIn wsX7_press wsX6_runs := goodIn_r _ [19, 20, 24, 25, 26, 27, 28, 29, 30, 31, 32, 33, 34, 35, 36, 37, 38, 39, 40, 41, 42, 43, 44, 45, 46, 47, 48, 49, 50] (by decide +kernel) (by decide +kernel)
set_option maxRecDepth 20000 in
theorem gX7_press_X6_runs : GoodIn wsX7_press (wsV RX7 54 RX6 yX6_runs wsX6_runs) := goodIn_app (goodIn_of _ (by decide +kernel)) ggX7_press_X6_runs
set_option maxRecDepth 20000 in
theorem ggX7_put_X7_isGame : GoodIn wsX7_put wsX7_isGame := goodIn_r _ [7, 2, 8, 9, 6, 10, 21, 22, 23, 24, 25, 26, 27, 28, 29, 30, 31, 32, 33, 34, 35, 36, 37, 38, 39, 40, 41, 42, 43, 44, 45, 46, 47, 48, 49, 50] (by decide +kernel) (by decide +kernel)
set_option maxRecDepth 20000 in
theorem gX7_put_X7_isGame : GoodIn wsX7_put (wsV RX7 135 RX7 yX7_isGame wsX7_isGame) := goodIn_app (goodIn_of _ (by decide +kernel)) ggX7_put_X7_isGame
set_option maxRecDepth 20000 in
theorem ggX7_put_X7_no : GoodIn wsX7_put wsX7_no := goodIn_r _ [14, 1, 21, 22, 23] (by decide +kernel) (by decide +kernel)
set_option maxRecDepth 20000 in
theorem gX7_put_X7_no : GoodIn wsX7_put (wsV RX7 28 RX7 yX7_no wsX7_no) := goodIn_app (goodIn_of _ (by decide +kernel)) ggX7_put_X7_no
set_option maxRecDepth 20000 in
theorem ggX7_put_X7_isIn : GoodIn wsX7_put wsX7_isIn := goodIn_r _ [10] (by decide +kernel) (by decide +kernel)
set_option maxRecDepth 20000 in
theorem gX7_put_X7_isIn : GoodIn wsX7_put (va_wsS RX7 24 yX7_isIn wsX7_isIn) := goodIn_app (goodIn_of _ (by decide +kernel)) ggX7_put_X7_isIn
set_option maxRecDepth 20000 in
theorem ggX7_put_X6_runs : GoodIn wsX7_put wsX6_runs := goodIn_r _ [19, 20, 24, 25, 26, 27, 28, 29, 30, 31, 32, 33, 34, 35, 36, 37, 38, 39, 40, 41, 42, 43, 44, 45, 46, 47, 48, 49, 50] (by decide +kernel) (by decide +kernel)
set_option maxRecDepth 20000 in
theorem gX7_put_X6_runs : GoodIn wsX7_put (wsV RX7 54 RX6 yX6_runs wsX6_runs) := goodIn_app (goodIn_of _ (by decide +kernel)) ggX7_put_X6_runs
set_option maxRecDepth 20000 in
theorem ggX7_steal_X7_isGame : GoodIn wsX7_steal wsX7_isGame := goodIn_r _ [11, 2, 12, 13, 10, 14, 25, 26, 27, 28, 29, 30, 31, 32, 33, 34, 35, 36, 37, 38, 39, 40, 41, 42, 43, 44, 45, 46, 47, 48, 49, 50, 51, 52, 53, 54] (by decide +kernel) (by decide +kernel)
set_option maxRecDepth 20000 in
theorem gX7_steal_X7_isGame : GoodIn wsX7_steal (wsV RX7 135 RX7 yX7_isGame wsX7_isGame) := goodIn_app (goodIn_of _ (by decide +kernel)) ggX7_steal_X7_isGame
set_option maxRecDepth 20000 in
theorem ggX7_steal_X7_no : GoodIn wsX7_steal wsX7_no := goodIn_r _ [18, 1, 25, 26, 27] (by decide +kernel) (by decide +kernel)
set_option maxRecDepth 20000 in
theorem gX7_steal_X7_no : GoodIn wsX7_steal (wsV RX7 28 RX7 yX7_no wsX7_no) := goodIn_app (goodIn_of _ (by decide +kernel)) ggX7_steal_X7_no
set_option maxRecDepth 20000 in
theorem ggX7_steal_X7_isIn : GoodIn wsX7_steal wsX7_isIn := goodIn_r _ [14] (by decide +kernel) (by decide +kernel)
set_option maxRecDepth 20000 in
theorem gX7_steal_X7_isIn : GoodIn wsX7_steal (va_wsS RX7 24 yX7_isIn wsX7_isIn) := goodIn_app (goodIn_of _ (by decide +kernel)) ggX7_steal_X7_isIn
set_option maxRecDepth 20000 in
theorem ggX7_steal_X6_runs : GoodIn wsX7_steal wsX6_runs := goodIn_r _ [23, 24, 28, 29, 30, 31, 32, 33, 34, 35, 36, 37, 38, 39, 40, 41, 42, 43, 44, 45, 46, 47, 48, 49, 50, 51, 52, 53, 54] (by decide +kernel) (by decide +kernel)
set_option maxRecDepth 20000 in
theorem gX7_steal_X6_runs : GoodIn wsX7_steal (wsV RX7 54 RX6 yX6_runs wsX6_runs) := goodIn_app (goodIn_of _ (by decide +kernel)) ggX7_steal_X6_runs
set_option maxRecDepth 20000 in
theorem ggX7_end_X7_isGame : GoodIn wsX7_end wsX7_isGame := goodIn_r _ [7, 2, 8, 9, 6, 10, 35, 36, 37, 38, 39, 40, 41, 42, 43, 44, 45, 46, 47, 48, 49, 50, 51, 52, 53, 54, 55, 56, 57, 58, 59, 60, 61, 62, 63, 64] (by decide +kernel) (by decide +kernel)
set_option maxRecDepth 20000 in
theorem gX7_end_X7_isGame : GoodIn wsX7_end (wsV RX7 135 RX7 yX7_isGame wsX7_isGame) := goodIn_app (goodIn_of _ (by decide +kernel)) ggX7_end_X7_isGame
set_option maxRecDepth 20000 in
theorem ggX7_end_X7_no : GoodIn wsX7_end wsX7_no := goodIn_r _ [14, 1, 35, 36, 37] (by decide +kernel) (by decide +kernel)
set_option maxRecDepth 20000 in
theorem gX7_end_X7_no : GoodIn wsX7_end (wsV RX7 28 RX7 yX7_no wsX7_no) := goodIn_app (goodIn_of _ (by decide +kernel)) ggX7_end_X7_no
set_option maxRecDepth 20000 in
theorem ggX7_end_X7_isIn : GoodIn wsX7_end wsX7_isIn := goodIn_r _ [10] (by decide +kernel) (by decide +kernel)
set_option maxRecDepth 20000 in
theorem gX7_end_X7_isIn : GoodIn wsX7_end (va_wsS RX7 24 yX7_isIn wsX7_isIn) := goodIn_app (goodIn_of _ (by decide +kernel)) ggX7_end_X7_isIn
set_option maxRecDepth 20000 in
theorem ggX7_end_X6_runs : GoodIn wsX7_end wsX6_runs := goodIn_r _ [19, 20, 38, 39, 40, 41, 42, 43, 44, 45, 46, 47, 48, 49, 50, 51, 52, 53, 54, 55, 56, 57, 58, 59, 60, 61, 62, 63, 64] (by decide +kernel) (by decide +kernel)
set_option maxRecDepth 20000 in
theorem gX7_end_X6_runs : GoodIn wsX7_end (wsV RX7 54 RX6 yX6_runs wsX6_runs) := goodIn_app (goodIn_of _ (by decide +kernel)) ggX7_end_X6_runs
set_option maxRecDepth 20000 in
theorem ggX7_end_X6_win : GoodIn wsX7_end wsX6_win := goodIn_r _ [24, 20, 25, 26, 27, 28, 29, 30, 38, 39, 40, 41, 42, 43, 44, 45, 46, 47, 48, 49, 50, 51, 52, 53, 54, 55, 56, 57, 58, 59, 60, 61, 62, 63, 64] (by decide +kernel) (by decide +kernel)
set_option maxRecDepth 20000 in
theorem gX7_end_X6_win : GoodIn wsX7_end (wsV RX7 150 RX6 yX6_win wsX6_win) := goodIn_app (goodIn_of _ (by decide +kernel)) ggX7_end_X6_win
set_option maxRecDepth 20000 in
theorem ggX7_end_X6_stop : GoodIn wsX7_end wsX6_stop := goodIn_r _ [34, 20, 27, 28, 25, 38, 39, 40, 41, 42, 43, 44, 45, 46, 47, 48, 49, 50, 51, 52, 53, 54, 55, 56, 57, 58, 59, 60, 61, 62, 63, 64] (by decide +kernel) (by decide +kernel)
set_option maxRecDepth 20000 in
theorem gX7_end_X6_stop : GoodIn wsX7_end (wsV RX7 153 RX6 yX6_stop wsX6_stop) := goodIn_app (goodIn_of _ (by decide +kernel)) ggX7_end_X6_stop
set_option maxRecDepth 20000 in
theorem ggX7_game_X7_isGame : GoodIn wsX7_game wsX7_isGame := goodIn_r _ [6, 7, 8, 9, 5, 10, 19, 20, 21, 22, 23, 24, 25, 26, 27, 28, 29, 30, 31, 32, 33, 34, 35, 36, 37, 38, 39, 40, 41, 42, 43, 44, 45, 46, 47, 48] (by decide +kernel) (by decide +kernel)
set_option maxRecDepth 20000 in
theorem gX7_game_X7_isGame : GoodIn wsX7_game (wsV RX7 135 RX7 yX7_isGame wsX7_isGame) := goodIn_app (goodIn_of _ (by decide +kernel)) ggX7_game_X7_isGame
set_option maxRecDepth 20000 in
theorem ggX7_game_X7_isIn : GoodIn wsX7_game wsX7_isIn := goodIn_r _ [10] (by decide +kernel) (by decide +kernel)
set_option maxRecDepth 20000 in
theorem gX7_game_X7_isIn : GoodIn wsX7_game (va_wsS RX7 24 yX7_isIn wsX7_isIn) := goodIn_app (goodIn_of _ (by decide +kernel)) ggX7_game_X7_isIn
set_option maxRecDepth 20000 in
theorem ggX7_game_X7_gameTold : GoodIn wsX7_game wsX7_gameTold := goodIn_r _ [14, 7, 19, 20, 21, 22, 23, 24, 25, 26, 27, 28, 29, 30, 31, 32, 33, 34, 35, 36, 37, 38, 39, 40, 41, 42, 43, 44, 45, 46, 47, 48] (by decide +kernel) (by decide +kernel)
set_option maxRecDepth 20000 in
theorem gX7_game_X7_gameTold : GoodIn wsX7_game (wsV RX7 159 RX7 yX7_gameTold wsX7_gameTold) := goodIn_app (goodIn_of _ (by decide +kernel)) ggX7_game_X7_gameTold
set_option maxRecDepth 20000 in
theorem ggX7_game_X7_no : GoodIn wsX7_game wsX7_no := goodIn_r _ [18, 1, 19, 20, 21] (by decide +kernel) (by decide +kernel)
set_option maxRecDepth 20000 in
theorem gX7_game_X7_no : GoodIn wsX7_game (wsV RX7 28 RX7 yX7_no wsX7_no) := goodIn_app (goodIn_of _ (by decide +kernel)) ggX7_game_X7_no
set_option maxRecDepth 20000 in
theorem ggX7_pass_X7_isIn : GoodIn wsX7_pass wsX7_isIn := goodIn_r _ [6] (by decide +kernel) (by decide +kernel)
set_option maxRecDepth 20000 in
theorem gX7_pass_X7_isIn : GoodIn wsX7_pass (va_wsS RX7 24 yX7_isIn wsX7_isIn) := goodIn_app (goodIn_of _ (by decide +kernel)) ggX7_pass_X7_isIn
set_option maxRecDepth 20000 in
theorem ggX7_pass_X7_no : GoodIn wsX7_pass wsX7_no := goodIn_r _ [10, 1, 65, 66, 67] (by decide +kernel) (by decide +kernel)
set_option maxRecDepth 20000 in
theorem gX7_pass_X7_no : GoodIn wsX7_pass (wsV RX7 28 RX7 yX7_no wsX7_no) := goodIn_app (goodIn_of _ (by decide +kernel)) ggX7_pass_X7_no
set_option maxRecDepth 20000 in
theorem ggX7_pass_X6_pass : GoodIn wsX7_pass wsX6_pass := goodIn_r _ [15, 16, 17, 18, 19, 20, 21, 22, 23, 24, 25, 26, 27, 28, 29, 30, 31, 32, 33, 34, 14, 35, 36, 37, 38, 39, 40, 41, 42, 43, 44, 45, 46, 47, 48, 49, 50, 51, 52, 53, 54, 55, 56, 57, 58, 59, 60, 61, 62, 63, 64, 68, 69, 70, 71, 72, 73, 74, 75, 76, 77, 78, 79, 80, 81, 82, 83, 84, 85, 86, 87, 88, 89, 90, 91, 92, 93, 94] (by decide +kernel) (by decide +kernel)
set_option maxRecDepth 20000 in
theorem gX7_pass_X6_pass : GoodIn wsX7_pass (wsV RX7 162 RX6 yX6_pass wsX6_pass) := goodIn_app (goodIn_of _ (by decide +kernel)) ggX7_pass_X6_pass
set_option maxRecDepth 20000 in
theorem ggX7_counted_X7_running : GoodIn wsX7_counted wsX7_running := goodIn_r _ [7, 1, 8, 9, 10, 11, 12, 13, 23, 24, 25, 26, 27, 28, 29, 30, 31, 32, 33, 34, 35, 36, 37, 38, 39, 40, 41, 42, 43, 44, 45, 46, 47, 48, 49, 50, 51, 52] (by decide +kernel) (by decide +kernel)
set_option maxRecDepth 20000 in
theorem gX7_counted_X7_running : GoodIn wsX7_counted (wsV RX7 64 RX7 yX7_running wsX7_running) := goodIn_app (goodIn_of _ (by decide +kernel)) ggX7_counted_X7_running
set_option maxRecDepth 20000 in
theorem ggX7_counted_X6_price : GoodIn wsX7_counted wsX6_price := goodIn_r _ [17, 18, 19, 20, 21, 22, 26, 27, 28, 29, 30, 31, 32, 33, 34, 35, 36, 37, 38, 39, 40, 41, 42, 43, 44, 45, 46, 47, 48, 49, 50, 51, 52] (by decide +kernel) (by decide +kernel)
set_option maxRecDepth 20000 in
theorem gX7_counted_X6_price : GoodIn wsX7_counted (wsV RX7 89 RX6 yX6_price wsX6_price) := goodIn_app (goodIn_of _ (by decide +kernel)) ggX7_counted_X6_price
set_option maxRecDepth 20000 in
theorem ggX7_count_X7_isIn : GoodIn wsX7_count wsX7_isIn := goodIn_r _ [5] (by decide +kernel) (by decide +kernel)
set_option maxRecDepth 20000 in
theorem gX7_count_X7_isIn : GoodIn wsX7_count (va_wsS RX7 24 yX7_isIn wsX7_isIn) := goodIn_app (goodIn_of _ (by decide +kernel)) ggX7_count_X7_isIn
set_option maxRecDepth 20000 in
theorem ggX7_count_X7_counted : GoodIn wsX7_count wsX7_counted := goodIn_r _ [9, 10, 11, 12, 13, 14, 4, 15, 16, 17, 18, 19, 20, 21, 22, 23, 24, 25, 26, 27, 28, 29, 30, 35, 36, 37, 38, 39, 40, 41, 42, 43, 44, 45, 46, 47, 48, 49, 50, 51, 52, 53, 54, 55, 56, 57, 58, 59, 60, 61, 62, 63, 64] (by decide +kernel) (by decide +kernel)
set_option maxRecDepth 20000 in
theorem gX7_count_X7_counted : GoodIn wsX7_count (wsV RX7 168 RX7 yX7_counted wsX7_counted) := goodIn_app (goodIn_of _ (by decide +kernel)) ggX7_count_X7_counted
set_option maxRecDepth 20000 in
theorem ggX7_count_X7_no : GoodIn wsX7_count wsX7_no := goodIn_r _ [34, 1, 35, 36, 37] (by decide +kernel) (by decide +kernel)
set_option maxRecDepth 20000 in
theorem gX7_count_X7_no : GoodIn wsX7_count (wsV RX7 28 RX7 yX7_no wsX7_no) := goodIn_app (goodIn_of _ (by decide +kernel)) ggX7_count_X7_no
set_option maxRecDepth 20000 in
theorem ggX7_foresee_X7_isIn : GoodIn wsX7_foresee wsX7_isIn := goodIn_r _ [7] (by decide +kernel) (by decide +kernel)
set_option maxRecDepth 20000 in
theorem gX7_foresee_X7_isIn : GoodIn wsX7_foresee (va_wsS RX7 24 yX7_isIn wsX7_isIn) := goodIn_app (goodIn_of _ (by decide +kernel)) ggX7_foresee_X7_isIn
set_option maxRecDepth 20000 in
theorem ggX7_foresee_X7_no : GoodIn wsX7_foresee wsX7_no := goodIn_r _ [11, 1, 85, 86, 87] (by decide +kernel) (by decide +kernel)
set_option maxRecDepth 20000 in
theorem gX7_foresee_X7_no : GoodIn wsX7_foresee (wsV RX7 28 RX7 yX7_no wsX7_no) := goodIn_app (goodIn_of _ (by decide +kernel)) ggX7_foresee_X7_no
set_option maxRecDepth 20000 in
theorem ggX7_foresee_X6_become : GoodIn wsX7_foresee wsX6_become := goodIn_r _ [16, 17, 18, 19, 20, 21, 22, 23, 24, 25, 26, 27, 28, 29, 30, 31, 32, 33, 34, 35, 36, 37, 38, 39, 40, 41, 42, 43, 44, 45, 15, 46, 47, 48, 49, 50, 88, 89, 90, 91, 92, 93, 94, 95, 96, 97, 98, 99, 100, 101, 102, 103, 104, 105, 106, 107, 108, 109, 110, 111, 112, 113, 114] (by decide +kernel) (by decide +kernel)
set_option maxRecDepth 20000 in
theorem gX7_foresee_X6_become : GoodIn wsX7_foresee (wsV RX7 171 RX6 yX6_become wsX6_become) := goodIn_app (goodIn_of _ (by decide +kernel)) ggX7_foresee_X6_become
set_option maxRecDepth 20000 in
theorem ggX7_foresee_X6_pass : GoodIn wsX7_foresee wsX6_pass := goodIn_r _ [54, 17, 19, 37, 33, 30, 35, 20, 43, 40, 55, 41, 56, 57, 58, 59, 42, 60, 61, 62, 15, 63, 38, 64, 65, 66, 67, 34, 22, 24, 29, 26, 27, 68, 69, 70, 71, 39, 25, 72, 73, 74, 75, 21, 23, 76, 77, 78, 79, 31, 28, 88, 89, 90, 91, 92, 93, 94, 95, 96, 97, 98, 99, 100, 101, 102, 103, 104, 105, 106, 107, 108, 109, 110, 111, 112, 113, 114] (by decide +kernel) (by decide +kernel)
set_option maxRecDepth 20000 in
theorem gX7_foresee_X6_pass : GoodIn wsX7_foresee (wsV RX7 162 RX6 yX6_pass wsX6_pass) := goodIn_app (goodIn_of _ (by decide +kernel)) ggX7_foresee_X6_pass
set_option maxRecDepth 20000 in
theorem ggX7_foresee_X6_runs : GoodIn wsX7_foresee wsX6_runs := goodIn_r _ [63, 38, 88, 89, 90, 91, 92, 93, 94, 95, 96, 97, 98, 99, 100, 101, 102, 103, 104, 105, 106, 107, 108, 109, 110, 111, 112, 113, 114] (by decide +kernel) (by decide +kernel)
set_option maxRecDepth 20000 in
theorem gX7_foresee_X6_runs : GoodIn wsX7_foresee (wsV RX7 54 RX6 yX6_runs wsX6_runs) := goodIn_app (goodIn_of _ (by decide +kernel)) ggX7_foresee_X6_runs
set_option maxRecDepth 20000 in
theorem ggX7_foresee_X6_bad : GoodIn wsX7_foresee wsX6_bad := goodIn_r _ [84, 20, 43, 88, 89, 90, 91, 92, 93, 94, 95, 96, 97, 98, 99, 100, 101, 102, 103, 104, 105, 106, 107, 108, 109, 110, 111, 112, 113, 114] (by decide +kernel) (by decide +kernel)
set_option maxRecDepth 20000 in
theorem gX7_foresee_X6_bad : GoodIn wsX7_foresee (wsV RX7 175 RX6 yX6_bad wsX6_bad) := goodIn_app (goodIn_of _ (by decide +kernel)) ggX7_foresee_X6_bad
set_option maxRecDepth 20000 in
theorem ggX7_leader_X7_isIn : GoodIn wsX7_leader wsX7_isIn := goodIn_r _ [6] (by decide +kernel) (by decide +kernel)
set_option maxRecDepth 20000 in
theorem gX7_leader_X7_isIn : GoodIn wsX7_leader (va_wsS RX7 24 yX7_isIn wsX7_isIn) := goodIn_app (goodIn_of _ (by decide +kernel)) ggX7_leader_X7_isIn
set_option maxRecDepth 20000 in
theorem ggX7_leader_X7_no : GoodIn wsX7_leader wsX7_no := goodIn_r _ [10, 1, 15, 16, 17] (by decide +kernel) (by decide +kernel)
set_option maxRecDepth 20000 in
theorem gX7_leader_X7_no : GoodIn wsX7_leader (wsV RX7 28 RX7 yX7_no wsX7_no) := goodIn_app (goodIn_of _ (by decide +kernel)) ggX7_leader_X7_no
set_option maxRecDepth 20000 in
theorem ggX7_leader_X7_isAhead : GoodIn wsX7_leader wsX7_isAhead := goodIn_r _ [14, 2, 15, 16, 17, 18, 19, 20, 21, 22, 23, 24, 25, 26, 27, 28, 29, 30, 31, 32, 33, 34, 35, 36, 37, 38, 39, 40, 41, 42, 43, 44] (by decide +kernel) (by decide +kernel)
set_option maxRecDepth 20000 in
theorem gX7_leader_X7_isAhead : GoodIn wsX7_leader (wsV RX7 178 RX7 yX7_isAhead wsX7_isAhead) := goodIn_app (goodIn_of _ (by decide +kernel)) ggX7_leader_X7_isAhead
set_option maxRecDepth 20000 in
theorem ggX7_needs_X7_isPlayer : GoodIn wsX7_needs wsX7_isPlayer := goodIn_r _ [14, 2, 15, 16, 13, 17, 28, 29, 30, 31, 32, 33, 34, 35, 36, 37, 38, 39, 40, 41, 42, 43, 44, 45, 46, 47, 48, 49, 50, 51, 52, 53, 54, 55, 56, 57] (by decide +kernel) (by decide +kernel)
set_option maxRecDepth 20000 in
theorem gX7_needs_X7_isPlayer : GoodIn wsX7_needs (wsV RX7 83 RX7 yX7_isPlayer wsX7_isPlayer) := goodIn_app (goodIn_of _ (by decide +kernel)) ggX7_needs_X7_isPlayer
set_option maxRecDepth 20000 in
theorem ggX7_needs_X7_no : GoodIn wsX7_needs wsX7_no := goodIn_r _ [21, 1, 28, 29, 30] (by decide +kernel) (by decide +kernel)
set_option maxRecDepth 20000 in
theorem gX7_needs_X7_no : GoodIn wsX7_needs (wsV RX7 28 RX7 yX7_no wsX7_no) := goodIn_app (goodIn_of _ (by decide +kernel)) ggX7_needs_X7_no
set_option maxRecDepth 20000 in
theorem ggX7_needs_X7_isIn : GoodIn wsX7_needs wsX7_isIn := goodIn_r _ [17] (by decide +kernel) (by decide +kernel)
set_option maxRecDepth 20000 in
theorem gX7_needs_X7_isIn : GoodIn wsX7_needs (va_wsS RX7 24 yX7_isIn wsX7_isIn) := goodIn_app (goodIn_of _ (by decide +kernel)) ggX7_needs_X7_isIn
set_option maxRecDepth 20000 in
theorem ggX7_needs_X6_runs : GoodIn wsX7_needs wsX6_runs := goodIn_r _ [26, 27, 31, 32, 33, 34, 35, 36, 37, 38, 39, 40, 41, 42, 43, 44, 45, 46, 47, 48, 49, 50, 51, 52, 53, 54, 55, 56, 57] (by decide +kernel) (by decide +kernel)
set_option maxRecDepth 20000 in
theorem gX7_needs_X6_runs : GoodIn wsX7_needs (wsV RX7 54 RX6 yX6_runs wsX6_runs) := goodIn_app (goodIn_of _ (by decide +kernel)) ggX7_needs_X6_runs
set_option maxRecDepth 20000 in
theorem ggX7_mean_X6_runs : GoodIn wsX7_mean wsX6_runs := goodIn_r _ [7, 8, 17, 18, 19, 20, 21, 22, 23, 24, 25, 26, 27, 28, 29, 30, 31, 32, 33, 34, 35, 36, 37, 38, 39, 40, 41, 42, 43] (by decide +kernel) (by decide +kernel)
set_option maxRecDepth 20000 in
theorem gX7_mean_X6_runs : GoodIn wsX7_mean (wsV RX7 54 RX6 yX6_runs wsX6_runs) := goodIn_app (goodIn_of _ (by decide +kernel)) ggX7_mean_X6_runs
set_option maxRecDepth 20000 in
theorem ggX7_mean_X7_running : GoodIn wsX7_mean wsX7_running := goodIn_r _ [13, 2, 3, 4, 5, 6, 7, 8, 14, 15, 16, 17, 18, 19, 20, 21, 22, 23, 24, 25, 26, 27, 28, 29, 30, 31, 32, 33, 34, 35, 36, 37, 38, 39, 40, 41, 42, 43] (by decide +kernel) (by decide +kernel)
set_option maxRecDepth 20000 in
theorem gX7_mean_X7_running : GoodIn wsX7_mean (wsV RX7 64 RX7 yX7_running wsX7_running) := goodIn_app (goodIn_of _ (by decide +kernel)) ggX7_mean_X7_running
set_option maxRecDepth 20000 in
theorem ggX7_digest_X7_counted : GoodIn wsX7_digest wsX7_counted := goodIn_r _ [9, 4, 10, 11, 12, 13, 8, 14, 15, 16, 17, 18, 19, 20, 21, 22, 23, 24, 25, 26, 27, 28, 29, 50, 51, 52, 53, 54, 55, 56, 57, 58, 59, 60, 61, 62, 63, 64, 65, 66, 67, 68, 69, 70, 71, 72, 73, 74, 75, 76, 77, 78, 79] (by decide +kernel) (by decide +kernel)
set_option maxRecDepth 20000 in
theorem gX7_digest_X7_counted : GoodIn wsX7_digest (wsV RX7 168 RX7 yX7_counted wsX7_counted) := goodIn_app (goodIn_of _ (by decide +kernel)) ggX7_digest_X7_counted
set_option maxRecDepth 20000 in
theorem ggX7_digest_X7_playerTold : GoodIn wsX7_digest wsX7_playerTold := goodIn_r _ [33, 4, 11, 12, 13, 8, 14, 15, 16, 17, 18, 19, 20, 34, 35, 36, 37, 38, 39, 40, 41, 50, 51, 52, 53, 54, 55, 56, 57, 58, 59, 60, 61, 62, 63, 64, 65, 66, 67, 68, 69, 70, 71, 72, 73, 74, 75, 76, 77, 78, 79] (by decide +kernel) (by decide +kernel)
set_option maxRecDepth 20000 in
theorem gX7_digest_X7_playerTold : GoodIn wsX7_digest (wsV RX7 86 RX7 yX7_playerTold wsX7_playerTold) := goodIn_app (goodIn_of _ (by decide +kernel)) ggX7_digest_X7_playerTold
set_option maxRecDepth 20000 in
theorem ggX7_digest_X7_loanTold : GoodIn wsX7_digest wsX7_loanTold := goodIn_r _ [45, 10, 4, 50, 51, 52, 53, 54, 55, 56, 57, 58, 59, 60, 61, 62, 63, 64, 65, 66, 67, 68, 69, 70, 71, 72, 73, 74, 75, 76, 77, 78, 79] (by decide +kernel) (by decide +kernel)
set_option maxRecDepth 20000 in
theorem gX7_digest_X7_loanTold : GoodIn wsX7_digest (wsV RX7 120 RX7 yX7_loanTold wsX7_loanTold) := goodIn_app (goodIn_of _ (by decide +kernel)) ggX7_digest_X7_loanTold
set_option maxRecDepth 20000 in
theorem ggX7_digest_X7_gameTold : GoodIn wsX7_digest wsX7_gameTold := goodIn_r _ [49, 4, 50, 51, 52, 53, 54, 55, 56, 57, 58, 59, 60, 61, 62, 63, 64, 65, 66, 67, 68, 69, 70, 71, 72, 73, 74, 75, 76, 77, 78, 79] (by decide +kernel) (by decide +kernel)
set_option maxRecDepth 20000 in
theorem gX7_digest_X7_gameTold : GoodIn wsX7_digest (wsV RX7 159 RX7 yX7_gameTold wsX7_gameTold) := goodIn_app (goodIn_of _ (by decide +kernel)) ggX7_digest_X7_gameTold
