set_option maxRecDepth 20000 in
theorem ggL_addLoan_X3_addLoan : GoodIn wsL_addLoan wsX3_addLoan := goodIn_ca (goodIn_ca (goodIn_r _ [7, 8, 9, 10, 11, 12, 13, 14, 15, 6, 16, 17, 18, 19, 20, 21, 22, 23, 24, 25, 26, 27, 28, 29, 30, 31, 32, 33, 34, 35, 36, 37, 38, 39, 40, 41, 42, 43, 44, 45, 46, 47, 48, 49, 50, 51, 52, 53, 54, 55, 56, 57, 58, 59, 60, 61, 62, 63, 64, 65, 66, 67, 68, 69, 70, 71, 72, 73, 74, 75, 76, 77, 78, 79, 80, 81, 82, 83, 84, 85, 86, 87, 88, 89, 90, 91, 92, 93, 94, 95, 96, 97, 98, 99, 100, 101, 102, 103, 104, 105, 106, 107, 108, 109, 110, 111, 112] (by decide +kernel) (by decide +kernel)) (goodIn_sub (fun _ h => List.mem_cons_of_mem _ (List.mem_append_left _ (List.mem_append_right _ h))) (by decide +kernel))) (goodIn_sub (fun _ h => List.mem_cons_of_mem _ (List.mem_append_right _ h)) (by decide +kernel))
set_option maxRecDepth 20000 in
theorem gL_addLoan_X3_addLoan : GoodIn wsL_addLoan (wsV RL 7 RX3 yX3_addLoan wsX3_addLoan) := goodIn_app (goodIn_of _ (by decide +kernel)) ggL_addLoan_X3_addLoan
set_option maxRecDepth 20000 in
theorem ggL_enter_X3_enter : GoodIn wsL_enter wsX3_enter := goodIn_ca (goodIn_ca (goodIn_r _ [7, 8, 9, 10, 11, 6, 12, 13, 14, 15, 16, 17, 18, 19, 20, 21, 22, 23, 24, 25, 26, 27, 28, 29, 30, 31, 32, 33, 34, 35, 36, 37, 38, 39, 40, 41, 42, 43, 44, 45, 46, 47, 48, 49, 50, 51, 52, 53, 54, 55, 56, 57, 58, 59, 60, 61, 62, 63, 64, 65, 66, 67, 68, 69, 70, 71, 72, 73, 74] (by decide +kernel) (by decide +kernel)) (goodIn_sub (fun _ h => List.mem_cons_of_mem _ (List.mem_append_left _ (List.mem_append_right _ h))) (by decide +kernel))) (goodIn_sub (fun _ h => List.mem_cons_of_mem _ (List.mem_append_right _ h)) (by decide +kernel))
set_option maxRecDepth 20000 in
theorem gL_enter_X3_enter : GoodIn wsL_enter (wsV RL 17 RX3 yX3_enter wsX3_enter) := goodIn_app (goodIn_of _ (by decide +kernel)) ggL_enter_X3_enter
set_option maxRecDepth 20000 in
theorem ggL_leave_X3_leave : GoodIn wsL_leave wsX3_leave := goodIn_ca (goodIn_ca (goodIn_r _ [7, 8, 9, 10, 11, 12, 6, 13, 14, 15, 16, 17, 18, 19, 20, 21, 22, 23, 24, 25, 26, 27, 28, 29, 30, 31, 32, 33, 34, 35, 36, 37, 38, 39, 40, 41, 42, 43, 44, 45, 46, 47, 48, 49, 50, 51, 52, 53, 54, 55, 56, 57, 58, 59, 60, 61, 62, 63, 64, 65, 66, 67, 68, 69, 70, 71, 72, 73, 74, 75, 76, 77, 78, 79, 80, 81, 82, 83, 84, 85, 86, 87, 88, 89, 90, 91, 92, 93, 94, 95, 96, 97, 98, 99, 100, 101, 102, 103, 104, 105, 106, 107, 108, 109, 110, 111, 112, 113, 114, 115, 116, 117, 118, 119, 120, 121, 122, 123, 124, 125, 126, 127, 128, 129, 130, 131, 132, 133, 134, 135, 136, 137, 138, 139] (by decide +kernel) (by decide +kernel)) (goodIn_sub (fun _ h => List.mem_cons_of_mem _ (List.mem_append_left _ (List.mem_append_right _ h))) (by decide +kernel))) (goodIn_sub (fun _ h => List.mem_cons_of_mem _ (List.mem_append_right _ h)) (by decide +kernel))
set_option maxRecDepth 20000 in
theorem gL_leave_X3_leave : GoodIn wsL_leave (wsV RL 23 RX3 yX3_leave wsX3_leave) := goodIn_app (goodIn_of _ (by decide +kernel)) ggL_leave_X3_leave
set_option maxRecDepth 20000 in
theorem ggL_swap_X3_swap : GoodIn wsL_swap wsX3_swap := goodIn_ca (goodIn_ca (goodIn_r _ [7, 8, 9, 10, 11, 12, 6, 13, 14, 15, 16, 17, 18, 19, 20, 21, 22, 23, 24, 25, 26, 27, 28, 29, 30, 31, 32, 33, 34, 35, 36, 37, 38, 39, 40, 41, 42, 43, 44, 45, 46, 47, 48, 49, 50, 51, 52, 53, 54, 55, 56, 57, 58, 59, 60, 61, 62, 63, 64, 65, 66, 67, 68, 69, 70, 71, 72, 73, 74, 75, 76, 77, 78, 79, 80, 81, 82, 83, 84, 85, 86, 87, 88, 89, 90, 91, 92, 93, 94, 95, 96, 97, 98, 99, 100, 101, 102, 103, 104, 105, 106, 107, 108, 109, 110, 111, 112, 113, 114, 115, 116, 117, 118, 119, 120, 121, 122, 123, 124, 125, 126, 127, 128, 129, 130, 131, 132, 133, 134, 135, 136, 137, 138, 139, 140, 141, 142, 143] (by decide +kernel) (by decide +kernel)) (goodIn_sub (fun _ h => List.mem_cons_of_mem _ (List.mem_append_left _ (List.mem_append_right _ h))) (by decide +kernel))) (goodIn_sub (fun _ h => List.mem_cons_of_mem _ (List.mem_append_right _ h)) (by decide +kernel))
set_option maxRecDepth 20000 in
theorem gL_swap_X3_swap : GoodIn wsL_swap (wsV RL 27 RX3 yX3_swap wsX3_swap) := goodIn_app (goodIn_of _ (by decide +kernel)) ggL_swap_X3_swap
set_option maxRecDepth 20000 in
theorem ggL_setArrears_X3_setArrears : GoodIn wsL_setArrears wsX3_setArrears := goodIn_ca (goodIn_ca (goodIn_ca (goodIn_r _ [8, 9, 10, 11, 12, 13, 14, 15, 7, 16, 17, 18, 19, 20, 21, 22, 23, 24, 25, 26, 27, 28, 29, 30, 31, 32, 33, 34, 35, 36, 37, 38, 39, 40, 41, 42, 43, 44, 45, 46, 47, 48, 49, 50, 51, 52, 53, 54, 55, 56, 57, 58, 59, 60, 61, 62, 63, 64, 65] (by decide +kernel) (by decide +kernel)) (goodIn_sub (fun _ h => List.mem_cons_of_mem _ (List.mem_append_left _ (List.mem_append_left _ (List.mem_append_right _ h)))) (by decide +kernel))) (goodIn_sub (fun _ h => List.mem_cons_of_mem _ (List.mem_append_left _ (List.mem_append_right _ h))) (by decide +kernel))) (goodIn_sub (fun _ h => List.mem_cons_of_mem _ (List.mem_append_right _ h)) (by decide +kernel))
set_option maxRecDepth 20000 in
theorem gL_setArrears_X3_setArrears : GoodIn wsL_setArrears (wsV RL 31 RX3 yX3_setArrears wsX3_setArrears) := goodIn_app (goodIn_of _ (by decide +kernel)) ggL_setArrears_X3_setArrears
set_option maxRecDepth 20000 in
theorem ggL_setWorth_X3_setWorth : GoodIn wsL_setWorth wsX3_setWorth := goodIn_ca (goodIn_ca (goodIn_r _ [7, 8, 9, 10, 11, 6, 12, 13, 14, 15, 16, 17, 18, 19, 20, 21, 22, 23, 24, 25, 26, 27, 28, 29, 30, 31, 32, 33, 34, 35, 36, 37, 38, 39, 40, 41, 42, 43, 44, 45, 46, 47, 48, 49, 50, 51, 52, 53, 54, 55, 56, 57, 58, 59, 60, 61] (by decide +kernel) (by decide +kernel)) (goodIn_sub (fun _ h => List.mem_cons_of_mem _ (List.mem_append_left _ (List.mem_append_right _ h))) (by decide +kernel))) (goodIn_sub (fun _ h => List.mem_cons_of_mem _ (List.mem_append_right _ h)) (by decide +kernel))
set_option maxRecDepth 20000 in
theorem gL_setWorth_X3_setWorth : GoodIn wsL_setWorth (wsV RL 35 RX3 yX3_setWorth wsX3_setWorth) := goodIn_app (goodIn_of _ (by decide +kernel)) ggL_setWorth_X3_setWorth
set_option maxRecDepth 20000 in
theorem ggL_stateOf_X3_stateOf : GoodIn wsL_stateOf wsX3_stateOf := goodIn_ca (goodIn_r _ [6, 7, 8, 9, 10, 5, 11, 12, 13, 14, 15, 16, 17, 18, 19, 20, 21, 22, 23, 24, 25, 26, 27, 28, 29, 30, 31, 32, 33, 34, 35, 36, 37, 38, 39, 40, 41, 42, 43, 44, 45, 46, 47, 48, 49, 50, 51, 52, 53, 54, 55] (by decide +kernel) (by decide +kernel)) (goodIn_sub (fun _ h => List.mem_cons_of_mem _ (List.mem_append_right _ h)) (by decide +kernel))
set_option maxRecDepth 20000 in
theorem gL_stateOf_X3_stateOf : GoodIn wsL_stateOf (wsV RL 38 RX3 yX3_stateOf wsX3_stateOf) := goodIn_app (goodIn_of _ (by decide +kernel)) ggL_stateOf_X3_stateOf
set_option maxRecDepth 20000 in
theorem ggL_counts_X3_counts : GoodIn wsL_counts wsX3_counts := goodIn_ca (goodIn_r _ [6, 7, 8, 9, 5, 10, 11, 12, 13, 14, 15, 16, 17, 18, 19, 20, 21, 22, 23, 24, 25, 26, 27, 28, 29, 30, 31, 32, 33, 34, 35, 36, 37, 38, 39, 40, 41, 42, 43, 44, 45, 46, 47, 48, 49, 50, 51, 52, 53, 54, 55, 56, 57, 58, 59, 60, 61, 62, 63, 64, 65, 66, 67] (by decide +kernel) (by decide +kernel)) (goodIn_sub (fun _ h => List.mem_cons_of_mem _ (List.mem_append_right _ h)) (by decide +kernel))
set_option maxRecDepth 20000 in
theorem gL_counts_X3_counts : GoodIn wsL_counts (wsV RL 41 RX3 yX3_counts wsX3_counts) := goodIn_app (goodIn_of _ (by decide +kernel)) ggL_counts_X3_counts
set_option maxRecDepth 20000 in
theorem ggL_addBond_X3_addBond : GoodIn wsL_addBond wsX3_addBond := goodIn_ca (goodIn_ca (goodIn_r _ [7, 8, 9, 10, 11, 12, 13, 14, 15, 16, 17, 6, 18, 19, 20, 21, 22, 23, 24, 25, 26, 27, 28, 29, 30, 31, 32, 33, 34, 35, 36, 37, 38, 39, 40, 41, 42, 43, 44, 45, 46, 47, 48, 49, 50, 51, 52, 53, 54, 55, 56, 57, 58, 59, 60, 61, 62, 63, 64, 65, 66, 67, 68, 69, 70, 71, 72, 73, 74, 75, 76, 77, 78, 79, 80, 81, 82, 83, 84, 85, 86, 87, 88, 89, 90, 91, 92, 93, 94, 95, 96, 97, 98, 99, 100, 101, 102, 103, 104, 105, 106, 107, 108, 109, 110] (by decide +kernel) (by decide +kernel)) (goodIn_sub (fun _ h => List.mem_cons_of_mem _ (List.mem_append_left _ (List.mem_append_right _ h))) (by decide +kernel))) (goodIn_sub (fun _ h => List.mem_cons_of_mem _ (List.mem_append_right _ h)) (by decide +kernel))
set_option maxRecDepth 20000 in
theorem gL_addBond_X3_addBond : GoodIn wsL_addBond (wsV RL 44 RX3 yX3_addBond wsX3_addBond) := goodIn_app (goodIn_of _ (by decide +kernel)) ggL_addBond_X3_addBond
set_option maxRecDepth 20000 in
theorem ggL_takeCash_X3_takeCash : GoodIn wsL_takeCash wsX3_takeCash := goodIn_ca (goodIn_ca (goodIn_r _ [7, 8, 9, 10, 11, 12, 13, 6, 14, 15, 16, 17, 18, 19, 20, 21, 22, 23, 24] (by decide +kernel) (by decide +kernel)) (goodIn_sub (fun _ h => List.mem_cons_of_mem _ (List.mem_append_left _ (List.mem_append_right _ h))) (by decide +kernel))) (goodIn_sub (fun _ h => List.mem_cons_of_mem _ (List.mem_append_right _ h)) (by decide +kernel))
set_option maxRecDepth 20000 in
theorem gL_takeCash_X3_takeCash : GoodIn wsL_takeCash (wsV RL 47 RX3 yX3_takeCash wsX3_takeCash) := goodIn_app (goodIn_of _ (by decide +kernel)) ggL_takeCash_X3_takeCash
set_option maxRecDepth 20000 in
theorem ggL_setRules_X3_setRules : GoodIn wsL_setRules wsX3_setRules := goodIn_ca (goodIn_r _ [6, 7, 8, 9, 10, 11, 5, 12, 13, 14, 15, 16, 17, 18, 19, 20, 21, 22] (by decide +kernel) (by decide +kernel)) (goodIn_sub (fun _ h => List.mem_cons_of_mem _ (List.mem_append_right _ h)) (by decide +kernel))
set_option maxRecDepth 20000 in
theorem gL_setRules_X3_setRules : GoodIn wsL_setRules (wsV RL 50 RX3 yX3_setRules wsX3_setRules) := goodIn_app (goodIn_of _ (by decide +kernel)) ggL_setRules_X3_setRules
set_option maxRecDepth 20000 in
theorem ggL_bondState_X3_bondState : GoodIn wsL_bondState wsX3_bondState := goodIn_ca (goodIn_r _ [6, 7, 8, 9, 10, 5, 11, 12, 13, 14, 15, 16, 17, 18, 19, 20, 21, 22, 23, 24, 25, 26, 27, 28, 29, 30, 31, 32, 33, 34, 35, 36, 37, 38, 39, 40, 41, 42, 43, 44, 45, 46, 47, 48, 49, 50, 51, 52, 53] (by decide +kernel) (by decide +kernel)) (goodIn_sub (fun _ h => List.mem_cons_of_mem _ (List.mem_append_right _ h)) (by decide +kernel))
set_option maxRecDepth 20000 in
theorem gL_bondState_X3_bondState : GoodIn wsL_bondState (wsV RL 54 RX3 yX3_bondState wsX3_bondState) := goodIn_app (goodIn_of _ (by decide +kernel)) ggL_bondState_X3_bondState
set_option maxRecDepth 20000 in
theorem ggL_dueOf_X3_dueOf : GoodIn wsL_dueOf wsX3_dueOf := goodIn_ca (goodIn_r _ [6, 7, 8, 9, 10, 5, 11, 12, 13, 14, 15, 16, 17, 18, 19, 20, 21, 22, 23, 24, 25, 26, 27, 28, 29, 30, 31, 32, 33, 34, 35, 36, 37, 38, 39, 40, 41, 42, 43, 44, 45, 46, 47, 48, 49, 50, 51, 52, 53] (by decide +kernel) (by decide +kernel)) (goodIn_sub (fun _ h => List.mem_cons_of_mem _ (List.mem_append_right _ h)) (by decide +kernel))
set_option maxRecDepth 20000 in
theorem gL_dueOf_X3_dueOf : GoodIn wsL_dueOf (wsV RL 57 RX3 yX3_dueOf wsX3_dueOf) := goodIn_app (goodIn_of _ (by decide +kernel)) ggL_dueOf_X3_dueOf
set_option maxRecDepth 20000 in
theorem ggL_pass_X3_pass : GoodIn wsL_pass wsX3_pass := goodIn_ca (goodIn_r _ [6, 7, 8, 9, 5, 10, 11, 12, 13, 14, 15, 16, 17, 18, 19, 20, 21, 22, 23, 24, 25, 26, 27, 28, 29, 30, 31, 32, 33, 34, 35, 36, 37, 38, 39, 40, 41, 42, 43, 44, 45, 46, 47, 48, 49, 50, 51, 52, 53, 54, 55, 56, 57, 58, 59, 60, 61, 62, 63, 64, 65, 66, 67, 68, 69, 70, 71, 72, 73, 74, 75, 76, 77, 78, 79, 80, 81] (by decide +kernel) (by decide +kernel)) (goodIn_sub (fun _ h => List.mem_cons_of_mem _ (List.mem_append_right _ h)) (by decide +kernel))
set_option maxRecDepth 20000 in
theorem gL_pass_X3_pass : GoodIn wsL_pass (wsV RL 60 RX3 yX3_pass wsX3_pass) := goodIn_app (goodIn_of _ (by decide +kernel)) ggL_pass_X3_pass
set_option maxRecDepth 20000 in
theorem ggL_holds_X3_holds : GoodIn wsL_holds wsX3_holds := goodIn_ca (goodIn_r _ [6, 7, 8, 9, 5, 10, 11, 12, 13, 14, 15, 16, 17, 18, 19, 20, 21, 22, 23, 24, 25, 26, 27, 28, 29, 30, 31, 32, 33, 34, 35, 36, 37, 38, 39, 40, 41, 42, 43, 44, 45, 46, 47, 48, 49, 50, 51, 52, 53, 54, 55, 56, 57, 58, 59, 60, 61, 62, 63, 64, 65, 66, 67, 68, 69, 70, 71, 72, 73, 74, 75, 76, 77, 78, 79, 80, 81, 82, 83, 84, 85, 86, 87, 88, 89, 90, 91, 92, 93, 94, 95, 96, 97, 98, 99, 100, 101, 102, 103, 104, 105, 106, 107, 108, 109, 110, 111, 112, 113, 114, 115, 116, 117, 118, 119, 120, 121, 122, 123, 124, 125, 126, 127, 128, 129, 130, 131, 132, 133, 134, 135, 136, 137, 138, 139, 140] (by decide +kernel) (by decide +kernel)) (goodIn_sub (fun _ h => List.mem_cons_of_mem _ (List.mem_append_right _ h)) (by decide +kernel))
set_option maxRecDepth 20000 in
theorem gL_holds_X3_holds : GoodIn wsL_holds (wsV RL 63 RX3 yX3_holds wsX3_holds) := goodIn_app (goodIn_of _ (by decide +kernel)) ggL_holds_X3_holds
set_option maxRecDepth 20000 in
theorem ggL_lacking_X3_lacking : GoodIn wsL_lacking wsX3_lacking := goodIn_ca (goodIn_r _ [6, 7, 8, 9, 5, 10, 11, 12, 13, 14, 15, 16, 17, 18, 19, 20, 21, 22, 23, 24, 25, 26, 27, 28, 29, 30, 31, 32, 33, 34, 35, 36, 37, 38, 39, 40, 41, 42, 43, 44, 45, 46, 47, 48, 49, 50, 51, 52, 53, 54, 55, 56, 57, 58, 59, 60, 61, 62, 63, 64, 65, 66, 67, 68, 69, 70, 71, 72, 73, 74, 75, 76, 77, 78, 79, 80, 81, 82, 83, 84, 85, 86, 87, 88, 89, 90, 91, 92, 93, 94, 95, 96, 97, 98, 99, 100, 101, 102, 103, 104, 105, 106, 107, 108, 109, 110, 111, 112, 113, 114, 115, 116, 117, 118, 119, 120, 121, 122, 123, 124, 125, 126, 127, 128, 129, 130, 131, 132, 133, 134, 135, 136] (by decide +kernel) (by decide +kernel)) (goodIn_sub (fun _ h => List.mem_cons_of_mem _ (List.mem_append_right _ h)) (by decide +kernel))
set_option maxRecDepth 20000 in
theorem gL_lacking_X3_lacking : GoodIn wsL_lacking (wsV RL 66 RX3 yX3_lacking wsX3_lacking) := goodIn_app (goodIn_of _ (by decide +kernel)) ggL_lacking_X3_lacking
set_option maxRecDepth 20000 in
theorem ggL_law_X3_init : GoodIn wsL_law wsX3_init := goodIn_r _ [9, 10, 11, 12, 13, 14, 15, 16, 17, 18, 19, 20, 21, 22, 23, 24, 25, 26, 27, 28, 29, 30, 31, 32, 33, 34, 35, 36, 37, 38, 39, 40, 41, 42, 43, 44, 45, 46, 47, 48, 599, 600, 601, 573, 574, 575, 576, 577, 578, 579, 580, 602, 603] (by decide +kernel) (by decide +kernel)
set_option maxRecDepth 20000 in
theorem gL_law_X3_init : GoodIn wsL_law (wsX3_init) := ggL_law_X3_init
set_option maxRecDepth 20000 in
theorem ggL_law_X4_init : GoodIn wsL_law wsX4_init := goodIn_r _ [51, 52, 11, 12, 53, 54, 55, 45, 56, 57, 58, 59, 60, 61, 62, 63, 64, 65, 66, 581, 582, 583, 584, 585, 586, 587, 588, 589, 590, 591, 592, 593, 594, 595, 596, 597, 598] (by decide +kernel) (by decide +kernel)
set_option maxRecDepth 20000 in
theorem gL_law_X4_init : GoodIn wsL_law (wsX4_init) := ggL_law_X4_init
set_option maxRecDepth 20000 in
theorem ggL_law_L_addLoan : GoodIn wsL_law wsL_addLoan := goodIn_ca (goodIn_ca (goodIn_r _ [70, 71, 72, 73, 74, 75, 2, 76, 77, 78, 16, 79, 80, 81, 82, 83, 84, 85, 86, 87, 88, 89, 90, 22, 91, 92, 93, 15, 94, 95, 96, 97, 98, 99, 11, 12, 100, 101, 102, 103, 104, 105, 106, 107, 108, 109, 110, 111, 31, 112, 113, 114, 115, 116, 117, 118, 119, 120, 121, 122, 123, 30, 124, 125, 126, 127, 128, 129, 130, 131, 132, 133, 134, 135, 136, 137, 138, 139, 140, 141, 142, 143, 144, 145, 146, 147, 148, 149, 150, 151, 152, 153, 154, 155, 156, 157, 573, 574, 575, 576, 577, 578, 579, 580, 604, 605, 606, 607, 608, 609, 599, 600, 601] (by decide +kernel) (by decide +kernel)) (goodIn_sub (fun _ h => List.mem_append_left _ (List.mem_append_left _ (List.mem_append_right _ h))) (by decide +kernel))) (goodIn_sub (fun _ h => List.mem_append_left _ (List.mem_append_right _ h)) (by decide +kernel))
set_option maxRecDepth 20000 in
theorem gL_law_L_addLoan : GoodIn wsL_law (va_wsS RL 74 yL_addLoan wsL_addLoan) := goodIn_app (goodIn_of _ (by decide +kernel)) ggL_law_L_addLoan
set_option maxRecDepth 20000 in
theorem ggL_law_X4_addLoan : GoodIn wsL_law wsX4_addLoan := goodIn_r _ [161, 162, 163, 56, 57, 58, 59, 164, 165, 5, 166, 167, 168, 169, 170, 171, 581, 582, 583, 584, 585, 586, 587, 588, 589, 590, 591, 592, 593, 594, 595, 596, 597, 598] (by decide +kernel) (by decide +kernel)
set_option maxRecDepth 20000 in
theorem gL_law_X4_addLoan : GoodIn wsL_law (wsV RL 79 RX4 yX4_addLoan wsX4_addLoan) := goodIn_app (goodIn_of _ (by decide +kernel)) ggL_law_X4_addLoan
set_option maxRecDepth 20000 in
theorem ggL_law_X4_thrown : GoodIn wsL_law wsX4_thrown := goodIn_r _ [175, 171, 581, 582, 583, 584, 585, 586, 587, 588, 589, 590, 591, 592, 593, 594, 595, 596, 597, 598] (by decide +kernel) (by decide +kernel)
set_option maxRecDepth 20000 in
theorem gL_law_X4_thrown : GoodIn wsL_law (wsV RL 80 RX4 yX4_thrown wsX4_thrown) := goodIn_app (goodIn_of _ (by decide +kernel)) ggL_law_X4_thrown
set_option maxRecDepth 20000 in
theorem ggL_law_L_enter : GoodIn wsL_law wsL_enter := goodIn_ca (goodIn_ca (goodIn_r _ [178, 179, 72, 180, 181, 182, 2, 183, 184, 185, 186, 187, 188, 189, 190, 16, 191, 91, 92, 93, 15, 94, 95, 192, 193, 194, 195, 196, 197, 198, 199, 200, 201, 202, 203, 204, 205, 206, 207, 31, 208, 209, 210, 77, 78, 211, 212, 213, 214, 215, 216, 24, 217, 218, 219, 152, 126, 153, 604, 605, 606, 607, 608, 609, 573, 574, 575, 576, 577, 578, 579, 580, 599, 600, 601] (by decide +kernel) (by decide +kernel)) (goodIn_sub (fun _ h => List.mem_append_right _ h) (by decide +kernel))) (goodIn_sub (fun _ h => List.mem_append_left _ (List.mem_append_left _ (List.mem_append_right _ h))) (by decide +kernel))
set_option maxRecDepth 20000 in
theorem gL_law_L_enter : GoodIn wsL_law (va_wsS RL 84 yL_enter wsL_enter) := goodIn_app (goodIn_of _ (by decide +kernel)) ggL_law_L_enter
set_option maxRecDepth 20000 in
theorem ggL_law_X4_enter : GoodIn wsL_law wsX4_enter := goodIn_r _ [223, 61, 224, 225, 226, 5, 227, 163, 167, 168, 169, 170, 171, 228, 229, 230, 231, 57, 56, 60, 58, 53, 581, 582, 583, 584, 585, 586, 587, 588, 589, 590, 591, 592, 593, 594, 595, 596, 597, 598] (by decide +kernel) (by decide +kernel)
set_option maxRecDepth 20000 in
theorem gL_law_X4_enter : GoodIn wsL_law (wsV RL 87 RX4 yX4_enter wsX4_enter) := goodIn_app (goodIn_of _ (by decide +kernel)) ggL_law_X4_enter
set_option maxRecDepth 20000 in
theorem ggL_law_L_leave : GoodIn wsL_law wsL_leave := goodIn_ca (goodIn_ca (goodIn_r _ [234, 179, 72, 235, 236, 237, 2, 238, 21, 184, 185, 186, 187, 188, 189, 190, 16, 191, 91, 92, 93, 15, 94, 95, 192, 193, 194, 195, 196, 197, 198, 199, 200, 201, 202, 203, 204, 205, 206, 207, 31, 208, 209, 210, 77, 78, 239, 240, 241, 242, 243, 244, 245, 17, 246, 247, 211, 212, 213, 214, 215, 216, 24, 217, 218, 219, 152, 126, 153, 248, 249, 250, 251, 22, 252, 253, 254, 255, 26, 256, 125, 127, 257, 258, 259, 260, 23, 261, 262, 263, 264, 265, 266, 267, 268, 269, 270, 271, 272, 273, 25, 274, 275, 276, 277, 278, 279, 280, 281, 20, 282, 283, 284, 285, 286, 46, 48, 573, 574, 575, 576, 577, 578, 579, 580, 604, 605, 606, 607, 608, 609, 599, 600, 601, 602, 603, 610, 611, 612, 613] (by decide +kernel) (by decide +kernel)) (goodIn_sub (fun _ h => List.mem_append_right _ h) (by decide +kernel))) (goodIn_sub (fun _ h => List.mem_append_left _ (List.mem_append_left _ (List.mem_append_right _ h))) (by decide +kernel))
set_option maxRecDepth 20000 in
theorem gL_law_L_leave : GoodIn wsL_law (va_wsS RL 88 yL_leave wsL_leave) := goodIn_app (goodIn_of _ (by decide +kernel)) ggL_law_L_leave
set_option maxRecDepth 20000 in
theorem ggL_law_X4_leave : GoodIn wsL_law wsX4_leave := goodIn_r _ [290, 61, 224, 225, 226, 5, 227, 163, 167, 168, 169, 170, 171, 291, 292, 293, 294, 295, 296, 297, 298, 299, 300, 301, 302, 55, 303, 304, 305, 306, 54, 307, 308, 309, 310, 311, 312, 313, 314, 315, 316, 317, 64, 62, 228, 229, 230, 231, 57, 56, 60, 58, 53, 318, 319, 320, 321, 63, 162, 59, 322, 323, 324, 325, 326, 327, 328, 329, 581, 582, 583, 584, 585, 586, 587, 588, 589, 590, 591, 592, 593, 594, 595, 596, 597, 598] (by decide +kernel) (by decide +kernel)
set_option maxRecDepth 20000 in
theorem gL_law_X4_leave : GoodIn wsL_law (wsV RL 90 RX4 yX4_leave wsX4_leave) := goodIn_app (goodIn_of _ (by decide +kernel)) ggL_law_X4_leave
set_option maxRecDepth 20000 in
theorem ggL_law_L_swap : GoodIn wsL_law wsL_swap := goodIn_ca (goodIn_ca (goodIn_r _ [332, 179, 72, 333, 334, 335, 2, 336, 21, 184, 185, 186, 187, 188, 189, 190, 16, 191, 91, 92, 93, 15, 94, 95, 192, 193, 194, 195, 196, 197, 198, 199, 200, 201, 202, 203, 204, 205, 206, 207, 31, 208, 209, 210, 77, 78, 275, 276, 277, 278, 239, 240, 241, 242, 243, 244, 245, 17, 246, 247, 211, 212, 213, 214, 215, 216, 24, 217, 218, 219, 152, 126, 153, 248, 249, 250, 251, 22, 252, 253, 254, 255, 26, 256, 125, 127, 257, 258, 259, 260, 23, 261, 262, 263, 264, 265, 266, 267, 268, 269, 270, 271, 272, 273, 25, 274, 337, 338, 339, 20, 340, 341, 342, 343, 344, 283, 284, 285, 286, 46, 48, 573, 574, 575, 576, 577, 578, 579, 580, 604, 605, 606, 607, 608, 609, 599, 600, 601, 602, 603, 610, 611, 612, 613] (by decide +kernel) (by decide +kernel)) (goodIn_sub (fun _ h => List.mem_append_right _ h) (by decide +kernel))) (goodIn_sub (fun _ h => List.mem_append_left _ (List.mem_append_left _ (List.mem_append_right _ h))) (by decide +kernel))
set_option maxRecDepth 20000 in
theorem gL_law_L_swap : GoodIn wsL_law (va_wsS RL 91 yL_swap wsL_swap) := goodIn_app (goodIn_of _ (by decide +kernel)) ggL_law_L_swap
set_option maxRecDepth 20000 in
theorem ggL_law_X4_swap : GoodIn wsL_law wsX4_swap := goodIn_r _ [348, 61, 224, 225, 226, 5, 227, 163, 167, 168, 169, 170, 171, 291, 292, 293, 294, 299, 300, 301, 302, 55, 303, 304, 305, 306, 54, 307, 308, 309, 310, 311, 312, 313, 314, 315, 316, 317, 64, 62, 228, 229, 230, 231, 57, 56, 60, 58, 53, 318, 319, 320, 321, 63, 162, 59, 322, 323, 324, 325, 326, 327, 328, 329, 581, 582, 583, 584, 585, 586, 587, 588, 589, 590, 591, 592, 593, 594, 595, 596, 597, 598] (by decide +kernel) (by decide +kernel)
set_option maxRecDepth 20000 in
theorem gL_law_X4_swap : GoodIn wsL_law (wsV RL 94 RX4 yX4_swap wsX4_swap) := goodIn_app (goodIn_of _ (by decide +kernel)) ggL_law_X4_swap
set_option maxRecDepth 20000 in
theorem ggL_law_L_setArrears : GoodIn wsL_law wsL_setArrears := goodIn_ca (goodIn_ca (goodIn_ca (goodIn_r _ [351, 179, 71, 72, 352, 353, 354, 2, 355, 77, 78, 184, 215, 185, 186, 187, 188, 189, 190, 16, 191, 91, 92, 93, 15, 94, 95, 192, 193, 194, 195, 196, 197, 198, 199, 200, 201, 202, 203, 204, 205, 206, 207, 31, 82, 83, 84, 85, 86, 604, 605, 606, 607, 608, 609, 573, 574, 575, 576, 577, 578, 579, 580, 599, 600, 601] (by decide +kernel) (by decide +kernel)) (goodIn_sub (fun _ h => List.mem_append_left _ (List.mem_append_left _ (List.mem_append_right _ h))) (by decide +kernel))) (goodIn_sub (fun _ h => List.mem_append_right _ h) (by decide +kernel))) (goodIn_sub (fun _ h => List.mem_append_left _ (List.mem_append_right _ h)) (by decide +kernel))
set_option maxRecDepth 20000 in
theorem gL_law_L_setArrears : GoodIn wsL_law (va_wsS RL 95 yL_setArrears wsL_setArrears) := goodIn_app (goodIn_of _ (by decide +kernel)) ggL_law_L_setArrears
set_option maxRecDepth 20000 in
theorem ggL_law_X4_setArrears : GoodIn wsL_law wsX4_setArrears := goodIn_r _ [359, 61, 60, 224, 225, 226, 5, 227, 163, 164, 165, 166, 167, 168, 169, 170, 171, 581, 582, 583, 584, 585, 586, 587, 588, 589, 590, 591, 592, 593, 594, 595, 596, 597, 598] (by decide +kernel) (by decide +kernel)
set_option maxRecDepth 20000 in
theorem gL_law_X4_setArrears : GoodIn wsL_law (wsV RL 97 RX4 yX4_setArrears wsX4_setArrears) := goodIn_app (goodIn_of _ (by decide +kernel)) ggL_law_X4_setArrears
set_option maxRecDepth 20000 in
theorem ggL_law_L_setWorth : GoodIn wsL_law wsL_setWorth := goodIn_ca (goodIn_ca (goodIn_r _ [362, 179, 71, 363, 364, 365, 2, 366, 218, 185, 186, 187, 188, 189, 190, 16, 191, 91, 92, 93, 15, 94, 95, 192, 193, 194, 195, 196, 197, 198, 199, 200, 201, 202, 203, 204, 205, 206, 207, 31, 82, 83, 84, 85, 86, 604, 605, 606, 607, 608, 609, 573, 574, 575, 576, 577, 578, 579, 580, 599, 600, 601] (by decide +kernel) (by decide +kernel)) (goodIn_sub (fun _ h => List.mem_append_right _ h) (by decide +kernel))) (goodIn_sub (fun _ h => List.mem_append_left _ (List.mem_append_right _ h)) (by decide +kernel))
set_option maxRecDepth 20000 in
theorem gL_law_L_setWorth : GoodIn wsL_law (va_wsS RL 98 yL_setWorth wsL_setWorth) := goodIn_app (goodIn_of _ (by decide +kernel)) ggL_law_L_setWorth
set_option maxRecDepth 20000 in
theorem ggL_law_X4_setWorth : GoodIn wsL_law wsX4_setWorth := goodIn_r _ [370, 57, 224, 225, 226, 5, 227, 163, 164, 165, 166, 167, 168, 169, 170, 171, 581, 582, 583, 584, 585, 586, 587, 588, 589, 590, 591, 592, 593, 594, 595, 596, 597, 598] (by decide +kernel) (by decide +kernel)
set_option maxRecDepth 20000 in
theorem gL_law_X4_setWorth : GoodIn wsL_law (wsV RL 100 RX4 yX4_setWorth wsX4_setWorth) := goodIn_app (goodIn_of _ (by decide +kernel)) ggL_law_X4_setWorth
set_option maxRecDepth 20000 in
theorem ggL_law_L_stateOf : GoodIn wsL_law wsL_stateOf := goodIn_ca (goodIn_r _ [373, 179, 374, 375, 376, 2, 377, 184, 185, 186, 187, 188, 189, 190, 16, 191, 91, 92, 93, 15, 94, 95, 192, 193, 194, 195, 196, 197, 198, 199, 200, 201, 202, 203, 204, 205, 206, 207, 31, 604, 605, 606, 607, 608, 609, 573, 574, 575, 576, 577, 578, 579, 580, 599, 600, 601] (by decide +kernel) (by decide +kernel)) (goodIn_sub (fun _ h => List.mem_append_right _ h) (by decide +kernel))
set_option maxRecDepth 20000 in
theorem gL_law_L_stateOf : GoodIn wsL_law (va_wsS RL 101 yL_stateOf wsL_stateOf) := goodIn_app (goodIn_of _ (by decide +kernel)) ggL_law_L_stateOf
set_option maxRecDepth 20000 in
theorem ggL_law_X4_stateOf : GoodIn wsL_law wsX4_stateOf := goodIn_r _ [381, 61, 224, 225, 226, 5, 227, 163, 167, 168, 169, 170, 171, 581, 582, 583, 584, 585, 586, 587, 588, 589, 590, 591, 592, 593, 594, 595, 596, 597, 598] (by decide +kernel) (by decide +kernel)
set_option maxRecDepth 20000 in
theorem gL_law_X4_stateOf : GoodIn wsL_law (wsV RL 103 RX4 yX4_stateOf wsX4_stateOf) := goodIn_app (goodIn_of _ (by decide +kernel)) ggL_law_X4_stateOf
set_option maxRecDepth 20000 in
theorem ggL_law_L_counts : GoodIn wsL_law wsL_counts := goodIn_ca (goodIn_r _ [384, 179, 385, 386, 387, 2, 388, 185, 186, 187, 188, 189, 190, 16, 191, 91, 92, 93, 15, 94, 95, 192, 193, 194, 195, 196, 197, 198, 199, 200, 201, 202, 203, 204, 205, 206, 207, 31, 211, 212, 213, 214, 215, 216, 24, 217, 218, 219, 152, 126, 153, 573, 574, 575, 576, 577, 578, 579, 580, 599, 600, 601, 604, 605, 606, 607, 608, 609] (by decide +kernel) (by decide +kernel)) (goodIn_sub (fun _ h => List.mem_append_right _ h) (by decide +kernel))
set_option maxRecDepth 20000 in
theorem gL_law_L_counts : GoodIn wsL_law (va_wsS RL 104 yL_counts wsL_counts) := goodIn_app (goodIn_of _ (by decide +kernel)) ggL_law_L_counts
set_option maxRecDepth 20000 in
theorem ggL_law_X4_counts : GoodIn wsL_law wsX4_counts := goodIn_r _ [392, 224, 225, 226, 5, 227, 163, 167, 168, 169, 170, 171, 228, 229, 230, 231, 57, 56, 60, 58, 53, 581, 582, 583, 584, 585, 586, 587, 588, 589, 590, 591, 592, 593, 594, 595, 596, 597, 598] (by decide +kernel) (by decide +kernel)
set_option maxRecDepth 20000 in
theorem gL_law_X4_counts : GoodIn wsL_law (wsV RL 106 RX4 yX4_counts wsX4_counts) := goodIn_app (goodIn_of _ (by decide +kernel)) ggL_law_X4_counts
set_option maxRecDepth 20000 in
theorem ggL_law_L_addBond : GoodIn wsL_law wsL_addBond := goodIn_ca (goodIn_ca (goodIn_r _ [395, 71, 72, 396, 397, 398, 2, 399, 77, 78, 400, 17, 401, 402, 403, 23, 82, 83, 84, 85, 86, 87, 88, 89, 90, 22, 91, 92, 93, 15, 94, 95, 404, 405, 406, 407, 11, 12, 408, 409, 410, 411, 106, 107, 108, 109, 110, 111, 31, 112, 113, 114, 115, 116, 117, 118, 119, 120, 121, 122, 123, 30, 124, 125, 126, 127, 128, 129, 130, 131, 132, 133, 134, 135, 136, 137, 138, 139, 140, 141, 142, 143, 144, 145, 146, 147, 148, 149, 150, 151, 152, 153, 154, 155, 156, 157, 573, 574, 575, 576, 577, 578, 579, 580, 610, 611, 612, 613, 599, 600, 601] (by decide +kernel) (by decide +kernel)) (goodIn_sub (fun _ h => List.mem_append_left _ (List.mem_append_left _ (List.mem_append_right _ h))) (by decide +kernel))) (goodIn_sub (fun _ h => List.mem_append_left _ (List.mem_append_right _ h)) (by decide +kernel))
set_option maxRecDepth 20000 in
theorem gL_law_L_addBond : GoodIn wsL_law (va_wsS RL 107 yL_addBond wsL_addBond) := goodIn_app (goodIn_of _ (by decide +kernel)) ggL_law_L_addBond
set_option maxRecDepth 20000 in
theorem ggL_law_X4_addBond : GoodIn wsL_law wsX4_addBond := goodIn_r _ [415, 416, 162, 317, 62, 63, 312, 164, 165, 5, 166, 167, 168, 169, 170, 171, 581, 582, 583, 584, 585, 586, 587, 588, 589, 590, 591, 592, 593, 594, 595, 596, 597, 598] (by decide +kernel) (by decide +kernel)
set_option maxRecDepth 20000 in
theorem gL_law_X4_addBond : GoodIn wsL_law (wsV RL 109 RX4 yX4_addBond wsX4_addBond) := goodIn_app (goodIn_of _ (by decide +kernel)) ggL_law_X4_addBond
set_option maxRecDepth 20000 in
theorem ggL_law_L_takeCash : GoodIn wsL_law wsL_takeCash := goodIn_ca (goodIn_ca (goodIn_r _ [419, 71, 72, 420, 421, 422, 2, 423, 77, 78, 424, 23, 82, 83, 84, 85, 86, 573, 574, 575, 576, 577, 578, 579, 580] (by decide +kernel) (by decide +kernel)) (goodIn_sub (fun _ h => List.mem_append_left _ (List.mem_append_left _ (List.mem_append_right _ h))) (by decide +kernel))) (goodIn_sub (fun _ h => List.mem_append_left _ (List.mem_append_right _ h)) (by decide +kernel))
set_option maxRecDepth 20000 in
theorem gL_law_L_takeCash : GoodIn wsL_law (va_wsS RL 110 yL_takeCash wsL_takeCash) := goodIn_app (goodIn_of _ (by decide +kernel)) ggL_law_L_takeCash
set_option maxRecDepth 20000 in
theorem ggL_law_X4_takeCash : GoodIn wsL_law wsX4_takeCash := goodIn_r _ [428, 429, 312, 164, 165, 5, 166, 167, 168, 169, 170, 171, 581, 582, 583, 584, 585, 586, 587, 588, 589, 590, 591, 592, 593, 594, 595, 596, 597, 598] (by decide +kernel) (by decide +kernel)
set_option maxRecDepth 20000 in
theorem gL_law_X4_takeCash : GoodIn wsL_law (wsV RL 112 RX4 yX4_takeCash wsX4_takeCash) := goodIn_app (goodIn_of _ (by decide +kernel)) ggL_law_X4_takeCash
set_option maxRecDepth 20000 in
theorem ggL_law_L_setRules : GoodIn wsL_law wsL_setRules := goodIn_ca (goodIn_r _ [432, 71, 433, 434, 435, 2, 436, 24, 25, 26, 82, 83, 84, 85, 86, 573, 574, 575, 576, 577, 578, 579, 580] (by decide +kernel) (by decide +kernel)) (goodIn_sub (fun _ h => List.mem_append_left _ (List.mem_append_right _ h)) (by decide +kernel))
set_option maxRecDepth 20000 in
theorem gL_law_L_setRules : GoodIn wsL_law (va_wsS RL 113 yL_setRules wsL_setRules) := goodIn_app (goodIn_of _ (by decide +kernel)) ggL_law_L_setRules
set_option maxRecDepth 20000 in
theorem ggL_law_X4_setRules : GoodIn wsL_law wsX4_setRules := goodIn_r _ [440, 53, 54, 55, 164, 165, 5, 166, 167, 168, 169, 170, 171, 581, 582, 583, 584, 585, 586, 587, 588, 589, 590, 591, 592, 593, 594, 595, 596, 597, 598] (by decide +kernel) (by decide +kernel)
set_option maxRecDepth 20000 in
theorem gL_law_X4_setRules : GoodIn wsL_law (wsV RL 116 RX4 yX4_setRules wsX4_setRules) := goodIn_app (goodIn_of _ (by decide +kernel)) ggL_law_X4_setRules
set_option maxRecDepth 20000 in
theorem ggL_law_L_bondState : GoodIn wsL_law wsL_bondState := goodIn_ca (goodIn_r _ [443, 179, 444, 445, 446, 2, 447, 247, 448, 449, 450, 451, 189, 190, 17, 246, 91, 92, 93, 15, 94, 95, 192, 193, 194, 195, 196, 197, 198, 199, 200, 201, 202, 203, 204, 205, 206, 207, 31, 610, 611, 612, 613, 573, 574, 575, 576, 577, 578, 579, 580, 599, 600, 601] (by decide +kernel) (by decide +kernel)) (goodIn_sub (fun _ h => List.mem_append_right _ h) (by decide +kernel))
set_option maxRecDepth 20000 in
theorem gL_law_L_bondState : GoodIn wsL_law (va_wsS RL 117 yL_bondState wsL_bondState) := goodIn_app (goodIn_of _ (by decide +kernel)) ggL_law_L_bondState
set_option maxRecDepth 20000 in
theorem ggL_law_X4_bondState : GoodIn wsL_law wsX4_bondState := goodIn_r _ [455, 64, 456, 457, 458, 5, 459, 317, 167, 168, 169, 170, 171, 581, 582, 583, 584, 585, 586, 587, 588, 589, 590, 591, 592, 593, 594, 595, 596, 597, 598] (by decide +kernel) (by decide +kernel)
set_option maxRecDepth 20000 in
theorem gL_law_X4_bondState : GoodIn wsL_law (wsV RL 119 RX4 yX4_bondState wsX4_bondState) := goodIn_app (goodIn_of _ (by decide +kernel)) ggL_law_X4_bondState
set_option maxRecDepth 20000 in
theorem ggL_law_L_dueOf : GoodIn wsL_law wsL_dueOf := goodIn_ca (goodIn_r _ [462, 179, 463, 464, 465, 2, 466, 274, 448, 449, 450, 451, 189, 190, 17, 246, 91, 92, 93, 15, 94, 95, 192, 193, 194, 195, 196, 197, 198, 199, 200, 201, 202, 203, 204, 205, 206, 207, 31, 610, 611, 612, 613, 573, 574, 575, 576, 577, 578, 579, 580, 599, 600, 601] (by decide +kernel) (by decide +kernel)) (goodIn_sub (fun _ h => List.mem_append_right _ h) (by decide +kernel))
set_option maxRecDepth 20000 in
theorem gL_law_L_dueOf : GoodIn wsL_law (va_wsS RL 120 yL_dueOf wsL_dueOf) := goodIn_app (goodIn_of _ (by decide +kernel)) ggL_law_L_dueOf
set_option maxRecDepth 20000 in
theorem ggL_law_X4_dueOf : GoodIn wsL_law wsX4_dueOf := goodIn_r _ [470, 63, 456, 457, 458, 5, 459, 317, 167, 168, 169, 170, 171, 581, 582, 583, 584, 585, 586, 587, 588, 589, 590, 591, 592, 593, 594, 595, 596, 597, 598] (by decide +kernel) (by decide +kernel)
set_option maxRecDepth 20000 in
theorem gL_law_X4_dueOf : GoodIn wsL_law (wsV RL 122 RX4 yX4_dueOf wsX4_dueOf) := goodIn_app (goodIn_of _ (by decide +kernel)) ggL_law_X4_dueOf
set_option maxRecDepth 20000 in
theorem ggL_law_X3_cash : GoodIn wsL_law wsX3_cash := goodIn_r _ [474, 23, 573, 574, 575, 576, 577, 578, 579, 580] (by decide +kernel) (by decide +kernel)
set_option maxRecDepth 20000 in
theorem gL_law_X3_cash : GoodIn wsL_law (wsV RL 123 RX3 yX3_cash wsX3_cash) := goodIn_app (goodIn_of _ (by decide +kernel)) ggL_law_X3_cash
set_option maxRecDepth 20000 in
theorem ggL_law_X4_cash : GoodIn wsL_law wsX4_cash := goodIn_r _ [478, 171, 312, 581, 582, 583, 584, 585, 586, 587, 588, 589, 590, 591, 592, 593, 594, 595, 596, 597, 598] (by decide +kernel) (by decide +kernel)
set_option maxRecDepth 20000 in
theorem gL_law_X4_cash : GoodIn wsL_law (wsV RL 126 RX4 yX4_cash wsX4_cash) := goodIn_app (goodIn_of _ (by decide +kernel)) ggL_law_X4_cash
set_option maxRecDepth 20000 in
theorem ggL_law_X3_debt : GoodIn wsL_law wsX3_debt := goodIn_r _ [268, 17, 246, 247, 269, 91, 92, 93, 15, 94, 95, 192, 193, 194, 195, 196, 197, 198, 199, 200, 201, 202, 203, 204, 205, 206, 207, 31, 573, 574, 575, 576, 577, 578, 579, 580, 610, 611, 612, 613, 599, 600, 601] (by decide +kernel) (by decide +kernel)
set_option maxRecDepth 20000 in
theorem gL_law_X3_debt : GoodIn wsL_law (wsV RL 127 RX3 yX3_debt wsX3_debt) := goodIn_app (goodIn_of _ (by decide +kernel)) ggL_law_X3_debt
set_option maxRecDepth 20000 in
theorem ggL_law_X4_debt : GoodIn wsL_law wsX4_debt := goodIn_r _ [483, 171, 313, 314, 315, 5, 316, 317, 64, 62, 581, 582, 583, 584, 585, 586, 587, 588, 589, 590, 591, 592, 593, 594, 595, 596, 597, 598] (by decide +kernel) (by decide +kernel)
set_option maxRecDepth 20000 in
theorem gL_law_X4_debt : GoodIn wsL_law (wsV RL 130 RX4 yX4_debt wsX4_debt) := goodIn_app (goodIn_of _ (by decide +kernel)) ggL_law_X4_debt
set_option maxRecDepth 20000 in
theorem ggL_law_X3_substitutes : GoodIn wsL_law wsX3_substitutes := goodIn_r _ [264, 23, 219, 152, 126, 153, 265, 266, 267, 2, 268, 17, 246, 247, 269, 91, 92, 93, 15, 94, 95, 192, 193, 194, 195, 196, 197, 198, 199, 200, 201, 202, 203, 204, 205, 206, 207, 31, 573, 574, 575, 576, 577, 578, 579, 580, 610, 611, 612, 613, 599, 600, 601] (by decide +kernel) (by decide +kernel)
set_option maxRecDepth 20000 in
theorem gL_law_X3_substitutes : GoodIn wsL_law (wsV RL 131 RX3 yX3_substitutes wsX3_substitutes) := goodIn_app (goodIn_of _ (by decide +kernel)) ggL_law_X3_substitutes
set_option maxRecDepth 20000 in
theorem ggL_law_X4_substitutes : GoodIn wsL_law wsX4_substitutes := goodIn_r _ [488, 171, 308, 309, 310, 5, 311, 312, 313, 314, 315, 316, 317, 64, 62, 581, 582, 583, 584, 585, 586, 587, 588, 589, 590, 591, 592, 593, 594, 595, 596, 597, 598] (by decide +kernel) (by decide +kernel)
set_option maxRecDepth 20000 in
theorem gL_law_X4_substitutes : GoodIn wsL_law (wsV RL 134 RX4 yX4_substitutes wsX4_substitutes) := goodIn_app (goodIn_of _ (by decide +kernel)) ggL_law_X4_substitutes
set_option maxRecDepth 20000 in
theorem ggL_law_L_pass : GoodIn wsL_law wsL_pass := goodIn_ca (goodIn_r _ [491, 71, 492, 493, 494, 2, 495, 22, 82, 83, 84, 85, 86, 496, 497, 498, 499, 16, 191, 184, 244, 215, 23, 217, 91, 92, 93, 15, 94, 95, 192, 193, 194, 195, 196, 197, 198, 199, 200, 201, 202, 203, 204, 205, 206, 207, 31, 500, 501, 502, 503, 17, 246, 247, 274, 504, 505, 506, 507, 269, 508, 573, 574, 575, 576, 577, 578, 579, 580, 604, 605, 606, 607, 608, 609, 599, 600, 601, 610, 611, 612, 613] (by decide +kernel) (by decide +kernel)) (goodIn_sub (fun _ h => List.mem_append_left _ (List.mem_append_right _ h)) (by decide +kernel))
set_option maxRecDepth 20000 in
theorem gL_law_L_pass : GoodIn wsL_law (va_wsS RL 135 yL_pass wsL_pass) := goodIn_app (goodIn_of _ (by decide +kernel)) ggL_law_L_pass
set_option maxRecDepth 20000 in
theorem ggL_law_X4_pass : GoodIn wsL_law wsX4_pass := goodIn_r _ [512, 162, 164, 165, 5, 166, 167, 168, 169, 170, 171, 513, 514, 515, 516, 163, 61, 59, 60, 312, 56, 317, 64, 63, 62, 66, 581, 582, 583, 584, 585, 586, 587, 588, 589, 590, 591, 592, 593, 594, 595, 596, 597, 598] (by decide +kernel) (by decide +kernel)
set_option maxRecDepth 20000 in
theorem gL_law_X4_pass : GoodIn wsL_law (wsV RL 137 RX4 yX4_pass wsX4_pass) := goodIn_app (goodIn_of _ (by decide +kernel)) ggL_law_X4_pass
set_option maxRecDepth 20000 in
theorem ggL_law_L_holds : GoodIn wsL_law wsL_holds := goodIn_ca (goodIn_r _ [519, 71, 520, 521, 522, 2, 523, 524, 525, 526, 527, 21, 82, 83, 84, 85, 86, 239, 240, 241, 242, 16, 191, 243, 244, 245, 17, 246, 247, 91, 92, 93, 15, 94, 95, 192, 193, 194, 195, 196, 197, 198, 199, 200, 201, 202, 203, 204, 205, 206, 207, 31, 211, 212, 213, 214, 215, 216, 24, 217, 218, 219, 152, 126, 153, 248, 249, 250, 251, 22, 252, 253, 254, 255, 26, 256, 125, 127, 257, 258, 259, 260, 23, 261, 262, 263, 264, 265, 266, 267, 268, 269, 270, 271, 272, 273, 25, 274, 275, 276, 277, 278, 184, 337, 338, 339, 20, 340, 341, 342, 343, 344, 283, 284, 285, 286, 46, 48, 573, 574, 575, 576, 577, 578, 579, 580, 602, 603, 604, 605, 606, 607, 608, 609, 610, 611, 612, 613, 599, 600, 601] (by decide +kernel) (by decide +kernel)) (goodIn_sub (fun _ h => List.mem_append_left _ (List.mem_append_right _ h)) (by decide +kernel))
set_option maxRecDepth 20000 in
theorem gL_law_L_holds : GoodIn wsL_law (va_wsS RL 138 yL_holds wsL_holds) := goodIn_app (goodIn_of _ (by decide +kernel)) ggL_law_L_holds
set_option maxRecDepth 20000 in
theorem ggL_law_X4_holds : GoodIn wsL_law wsX4_holds := goodIn_r _ [531, 164, 165, 5, 166, 167, 168, 169, 170, 171, 291, 292, 293, 294, 163, 61, 299, 300, 301, 302, 55, 303, 304, 305, 306, 54, 307, 308, 309, 310, 311, 312, 313, 314, 315, 316, 317, 64, 62, 228, 229, 230, 231, 57, 56, 60, 58, 53, 318, 319, 320, 321, 63, 162, 59, 322, 323, 324, 325, 326, 327, 328, 329, 581, 582, 583, 584, 585, 586, 587, 588, 589, 590, 591, 592, 593, 594, 595, 596, 597, 598] (by decide +kernel) (by decide +kernel)
set_option maxRecDepth 20000 in
theorem gL_law_X4_holds : GoodIn wsL_law (wsV RL 140 RX4 yX4_holds wsX4_holds) := goodIn_app (goodIn_of _ (by decide +kernel)) ggL_law_X4_holds
set_option maxRecDepth 20000 in
theorem ggL_law_L_lacking : GoodIn wsL_law wsL_lacking := goodIn_ca (goodIn_r _ [534, 71, 535, 525, 526, 2, 527, 21, 82, 83, 84, 85, 86, 239, 240, 241, 242, 16, 191, 243, 244, 245, 17, 246, 247, 91, 92, 93, 15, 94, 95, 192, 193, 194, 195, 196, 197, 198, 199, 200, 201, 202, 203, 204, 205, 206, 207, 31, 211, 212, 213, 214, 215, 216, 24, 217, 218, 219, 152, 126, 153, 248, 249, 250, 251, 22, 252, 253, 254, 255, 26, 256, 125, 127, 257, 258, 259, 260, 23, 261, 262, 263, 264, 265, 266, 267, 268, 269, 270, 271, 272, 273, 25, 274, 275, 276, 277, 278, 184, 337, 338, 339, 20, 340, 341, 342, 343, 344, 283, 284, 285, 286, 46, 48, 573, 574, 575, 576, 577, 578, 579, 580, 602, 603, 604, 605, 606, 607, 608, 609, 610, 611, 612, 613, 599, 600, 601] (by decide +kernel) (by decide +kernel)) (goodIn_sub (fun _ h => List.mem_append_left _ (List.mem_append_right _ h)) (by decide +kernel))
set_option maxRecDepth 20000 in
theorem gL_law_L_lacking : GoodIn wsL_law (va_wsS RL 141 yL_lacking wsL_lacking) := goodIn_app (goodIn_of _ (by decide +kernel)) ggL_law_L_lacking
set_option maxRecDepth 20000 in
theorem ggL_law_X4_lacking : GoodIn wsL_law wsX4_lacking := goodIn_r _ [539, 164, 165, 5, 166, 167, 168, 169, 170, 171, 291, 292, 293, 294, 163, 61, 299, 300, 301, 302, 55, 303, 304, 305, 306, 54, 307, 308, 309, 310, 311, 312, 313, 314, 315, 316, 317, 64, 62, 228, 229, 230, 231, 57, 56, 60, 58, 53, 318, 319, 320, 321, 63, 162, 59, 322, 323, 324, 325, 326, 327, 328, 329, 581, 582, 583, 584, 585, 586, 587, 588, 589, 590, 591, 592, 593, 594, 595, 596, 597, 598] (by decide +kernel) (by decide +kernel)
set_option maxRecDepth 20000 in
theorem gL_law_X4_lacking : GoodIn wsL_law (wsV RL 143 RX4 yX4_lacking wsX4_lacking) := goodIn_app (goodIn_of _ (by decide +kernel)) ggL_law_X4_lacking
set_option maxRecDepth 20000 in
theorem ggL_law_X3_leastToAdd : GoodIn wsL_law wsX3_leastToAdd := goodIn_r _ [543, 21, 239, 240, 241, 2, 242, 16, 191, 243, 244, 245, 17, 246, 247, 91, 92, 93, 15, 94, 95, 192, 193, 194, 195, 196, 197, 198, 199, 200, 201, 202, 203, 204, 205, 206, 207, 31, 211, 212, 213, 214, 215, 216, 24, 217, 218, 219, 152, 126, 153, 248, 249, 250, 251, 22, 252, 253, 254, 255, 26, 256, 125, 127, 257, 258, 259, 260, 23, 261, 262, 263, 264, 265, 266, 267, 268, 269, 270, 271, 272, 273, 25, 274, 275, 276, 277, 278, 184, 544, 545, 546, 547, 548, 549, 550, 551, 552, 553, 554, 555, 556, 279, 280, 281, 20, 282, 283, 284, 285, 286, 46, 48, 573, 574, 575, 576, 577, 578, 579, 580, 602, 603, 604, 605, 606, 607, 608, 609, 610, 611, 612, 613, 599, 600, 601] (by decide +kernel) (by decide +kernel)
set_option maxRecDepth 20000 in
theorem gL_law_X3_leastToAdd : GoodIn wsL_law (wsV RL 144 RX3 yX3_leastToAdd wsX3_leastToAdd) := goodIn_app (goodIn_of _ (by decide +kernel)) ggL_law_X3_leastToAdd
set_option maxRecDepth 20000 in
theorem ggL_law_X4_leastToAdd : GoodIn wsL_law wsX4_leastToAdd := goodIn_r _ [560, 171, 163, 61, 291, 292, 293, 5, 294, 561, 562, 563, 295, 296, 297, 298, 299, 300, 301, 302, 55, 303, 304, 305, 306, 54, 307, 308, 309, 310, 311, 312, 313, 314, 315, 316, 317, 64, 62, 228, 229, 230, 231, 57, 56, 60, 58, 53, 318, 319, 320, 321, 63, 162, 59, 322, 323, 324, 325, 326, 327, 328, 329, 581, 582, 583, 584, 585, 586, 587, 588, 589, 590, 591, 592, 593, 594, 595, 596, 597, 598] (by decide +kernel) (by decide +kernel)
set_option maxRecDepth 20000 in
theorem gL_law_X4_leastToAdd : GoodIn wsL_law (wsV RL 147 RX4 yX4_leastToAdd wsX4_leastToAdd) := goodIn_app (goodIn_of _ (by decide +kernel)) ggL_law_X4_leastToAdd
set_option maxRecDepth 20000 in
theorem ggL_law_X3_leastToAddByAll : GoodIn wsL_law wsX3_leastToAddByAll := goodIn_r _ [567, 16, 21, 239, 240, 241, 2, 242, 191, 243, 244, 245, 17, 246, 247, 91, 92, 93, 15, 94, 95, 192, 193, 194, 195, 196, 197, 198, 199, 200, 201, 202, 203, 204, 205, 206, 207, 31, 211, 212, 213, 214, 215, 216, 24, 217, 218, 219, 152, 126, 153, 248, 249, 250, 251, 22, 252, 253, 254, 255, 26, 256, 125, 127, 257, 258, 259, 260, 23, 261, 262, 263, 264, 265, 266, 267, 268, 269, 270, 271, 272, 273, 25, 274, 275, 276, 277, 278, 184, 547, 548, 549, 550, 551, 552, 553, 554, 555, 556, 279, 280, 281, 20, 282, 283, 284, 285, 286, 46, 48, 573, 574, 575, 576, 577, 578, 579, 580, 602, 603, 604, 605, 606, 607, 608, 609, 610, 611, 612, 613, 599, 600, 601] (by decide +kernel) (by decide +kernel)
set_option maxRecDepth 20000 in
theorem gL_law_X3_leastToAddByAll : GoodIn wsL_law (wsV RL 148 RX3 yX3_leastToAddByAll wsX3_leastToAddByAll) := goodIn_app (goodIn_of _ (by decide +kernel)) ggL_law_X3_leastToAddByAll
set_option maxRecDepth 20000 in
theorem ggL_law_X4_leastToAddByAll : GoodIn wsL_law wsX4_leastToAddByAll := goodIn_r _ [571, 572, 558, 559, 5, 560, 171, 163, 61, 291, 292, 293, 294, 561, 562, 563, 295, 296, 297, 298, 299, 300, 301, 302, 55, 303, 304, 305, 306, 54, 307, 308, 309, 310, 311, 312, 313, 314, 315, 316, 317, 64, 62, 228, 229, 230, 231, 57, 56, 60, 58, 53, 318, 319, 320, 321, 63, 162, 59, 322, 323, 324, 325, 326, 327, 328, 329, 581, 582, 583, 584, 585, 586, 587, 588, 589, 590, 591, 592, 593, 594, 595, 596, 597, 598] (by decide +kernel) (by decide +kernel)
set_option maxRecDepth 20000 in
theorem gL_law_X4_leastToAddByAll : GoodIn wsL_law (wsV RL 151 RX4 yX4_leastToAddByAll wsX4_leastToAddByAll) := goodIn_app (goodIn_of _ (by decide +kernel)) ggL_law_X4_leastToAddByAll
