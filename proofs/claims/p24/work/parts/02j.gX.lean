set_option maxRecDepth 20000 in
theorem ggX2_allHold_X2_missing : GoodIn wsX2_allHold wsX2_missing := goodIn_r _ [5, 6, 7, 8, 9] (by decide +kernel) (by decide +kernel)
set_option maxRecDepth 20000 in
theorem gX2_allHold_X2_missing : GoodIn wsX2_allHold (wsV RX2 20 RX2 yX2_missing wsX2_missing) := goodIn_app (goodIn_of _ (by decide +kernel)) ggX2_allHold_X2_missing
set_option maxRecDepth 20000 in
theorem ggX2_mostMissing_X2_testOf : GoodIn wsX2_mostMissing wsX2_testOf := goodIn_r _ [8] (by decide +kernel) (by decide +kernel)
set_option maxRecDepth 20000 in
theorem gX2_mostMissing_X2_testOf : GoodIn wsX2_mostMissing (va_wsS RX2 24 yX2_testOf wsX2_testOf) := goodIn_app (goodIn_of _ (by decide +kernel)) ggX2_mostMissing_X2_testOf
set_option maxRecDepth 20000 in
theorem ggX2_mostMissing_X2_missing : GoodIn wsX2_mostMissing wsX2_missing := goodIn_r _ [12, 13, 14, 15, 16] (by decide +kernel) (by decide +kernel)
set_option maxRecDepth 20000 in
theorem gX2_mostMissing_X2_missing : GoodIn wsX2_mostMissing (wsV RX2 20 RX2 yX2_missing wsX2_missing) := goodIn_app (goodIn_of _ (by decide +kernel)) ggX2_mostMissing_X2_missing
set_option maxRecDepth 20000 in
theorem ggX3_init_Jx4a65c_init_da8c8 : GoodIn wsX3_init wsJx4a65c_init_da8c8 := goodIn_r _ [20, 21, 22, 23, 24, 25, 26, 27, 28, 29, 30, 31, 32, 2, 3, 40, 41, 42] (by decide +kernel) (by decide +kernel)
set_option maxRecDepth 20000 in
theorem gX3_init_Jx4a65c_init_da8c8 : GoodIn wsX3_init (wsJx4a65c_init_da8c8) := ggX3_init_Jx4a65c_init_da8c8
set_option maxRecDepth 20000 in
theorem ggX3_init_X2_init : GoodIn wsX3_init wsX2_init := goodIn_r _ [34, 35, 2, 3, 36, 37, 38, 39, 51, 52] (by decide +kernel) (by decide +kernel)
set_option maxRecDepth 20000 in
theorem gX3_init_X2_init_n21 : GoodIn wsX3_init (wsX2_init) := ggX3_init_X2_init
set_option maxRecDepth 20000 in
theorem ggX3_addLoan_X3_requireWithin : GoodIn wsX3_addLoan wsX3_requireWithin := goodIn_ca (goodIn_r _ [10, 11, 12] (by decide +kernel) (by decide +kernel)) (goodIn_sub (fun _ h => List.mem_cons_of_mem _ (List.mem_append_right _ h)) (by decide +kernel))
set_option maxRecDepth 20000 in
theorem gX3_addLoan_X3_requireWithin : GoodIn wsX3_addLoan (va_wsS RX3 42 yX3_requireWithin wsX3_requireWithin) := goodIn_app (goodIn_of _ (by decide +kernel)) ggX3_addLoan_X3_requireWithin
set_option maxRecDepth 20000 in
theorem ggX3_addLoan_X3_requireDueAhead : GoodIn wsX3_addLoan wsX3_requireDueAhead := goodIn_ca (goodIn_r _ [16, 11, 12, 17, 90, 91, 92, 93, 94, 95, 96, 97] (by decide +kernel) (by decide +kernel)) (goodIn_sub (fun _ h => List.mem_cons_of_mem _ (List.mem_append_right _ h)) (by decide +kernel))
set_option maxRecDepth 20000 in
theorem gX3_addLoan_X3_requireDueAhead : GoodIn wsX3_addLoan (wsV RX3 46 RX3 yX3_requireDueAhead wsX3_requireDueAhead) := goodIn_app (goodIn_of _ (by decide +kernel)) ggX3_addLoan_X3_requireDueAhead
set_option maxRecDepth 20000 in
theorem ggX3_addLoan_Jx4a65c_size_8abf5 : GoodIn wsX3_addLoan wsJx4a65c_size_8abf5 := goodIn_r _ [22, 23, 104, 105, 106] (by decide +kernel) (by decide +kernel)
set_option maxRecDepth 20000 in
theorem gX3_addLoan_Jx4a65c_size_8abf5 : GoodIn wsX3_addLoan (wsV RX3 50 RJx4a65c yJx4a65c_size_8abf5 wsJx4a65c_size_8abf5) := goodIn_app (goodIn_of _ (by decide +kernel)) ggX3_addLoan_Jx4a65c_size_8abf5
set_option maxRecDepth 20000 in
theorem ggX3_addLoan_X1_init : GoodIn wsX3_addLoan wsX1_init := goodIn_r _ [26, 27, 28, 29, 30, 31, 32, 33, 34, 35, 98, 99, 100, 101, 102, 103] (by decide +kernel) (by decide +kernel)
set_option maxRecDepth 20000 in
theorem gX3_addLoan_X1_init : GoodIn wsX3_addLoan (wsX1_init) := ggX3_addLoan_X1_init
set_option maxRecDepth 20000 in
theorem ggX3_addLoan_Jx4a65c_add_9ea2d : GoodIn wsX3_addLoan wsJx4a65c_add_9ea2d := goodIn_r _ [39, 40, 41, 42, 23, 43, 44, 45, 21, 46, 47, 48, 49, 50, 51, 52, 53, 54, 55, 56, 57, 58, 59, 60, 61, 62, 63, 64, 65, 66, 67, 68, 69, 70, 71, 72, 73, 74, 75, 76, 77, 78, 79, 80, 81, 82, 83, 84, 85, 86, 87, 88, 89, 104, 105, 106] (by decide +kernel) (by decide +kernel)
set_option maxRecDepth 20000 in
theorem gX3_addLoan_Jx4a65c_add_9ea2d : GoodIn wsX3_addLoan (wsV RX3 66 RJx4a65c yJx4a65c_add_9ea2d wsJx4a65c_add_9ea2d) := goodIn_app (goodIn_of _ (by decide +kernel)) ggX3_addLoan_Jx4a65c_add_9ea2d
set_option maxRecDepth 20000 in
theorem ggX3_enter_X3_loanAt : GoodIn wsX3_enter wsX3_loanAt := goodIn_ca (goodIn_r _ [6, 7, 8, 9, 10, 11, 12, 13, 14, 15, 16, 17, 18, 19, 20, 21, 22, 23, 24, 25, 26, 27, 28, 29, 30, 31, 32, 33, 58, 59, 60, 61, 62, 63, 64, 65, 66, 67, 68] (by decide +kernel) (by decide +kernel)) (goodIn_sub (fun _ h => List.mem_cons_of_mem _ (List.mem_append_left _ (List.mem_append_right _ h))) (by decide +kernel))
set_option maxRecDepth 20000 in
theorem gX3_enter_X3_loanAt : GoodIn wsX3_enter (wsV RX3 70 RX3 yX3_loanAt wsX3_loanAt) := goodIn_app (goodIn_of _ (by decide +kernel)) ggX3_enter_X3_loanAt
set_option maxRecDepth 20000 in
theorem ggX3_enter_X3_requireState : GoodIn wsX3_enter wsX3_requireState := goodIn_ca (goodIn_r _ [36, 37, 38, 1, 52, 53, 54, 55, 56, 57] (by decide +kernel) (by decide +kernel)) (goodIn_sub (fun _ h => List.mem_cons_of_mem _ (List.mem_append_right _ h)) (by decide +kernel))
set_option maxRecDepth 20000 in
theorem gX3_enter_X3_requireState : GoodIn wsX3_enter (va_wsS RX3 74 yX3_requireState wsX3_requireState) := goodIn_app (goodIn_of _ (by decide +kernel)) ggX3_enter_X3_requireState
set_option maxRecDepth 20000 in
theorem ggX3_enter_X3_countOf : GoodIn wsX3_enter wsX3_countOf := goodIn_r _ [42, 43, 44, 45, 46, 47, 48, 49, 50, 51, 52, 53, 54, 55, 56, 57, 58, 59, 60, 61, 62, 63, 64, 65] (by decide +kernel) (by decide +kernel)
set_option maxRecDepth 20000 in
theorem gX3_enter_X3_countOf : GoodIn wsX3_enter (wsV RX3 81 RX3 yX3_countOf wsX3_countOf) := goodIn_app (goodIn_of _ (by decide +kernel)) ggX3_enter_X3_countOf
set_option maxRecDepth 20000 in
theorem ggX3_leave_X3_loanAt : GoodIn wsX3_leave wsX3_loanAt := goodIn_ca (goodIn_r _ [7, 8, 9, 10, 11, 12, 13, 14, 15, 16, 17, 18, 19, 20, 21, 22, 23, 24, 25, 26, 27, 28, 29, 30, 31, 32, 33, 34, 111, 112, 113, 114, 115, 116, 117, 118, 125, 126, 127] (by decide +kernel) (by decide +kernel)) (goodIn_sub (fun _ h => List.mem_cons_of_mem _ (List.mem_append_left _ (List.mem_append_right _ h))) (by decide +kernel))
set_option maxRecDepth 20000 in
theorem gX3_leave_X3_loanAt : GoodIn wsX3_leave (wsV RX3 70 RX3 yX3_loanAt wsX3_loanAt) := goodIn_app (goodIn_of _ (by decide +kernel)) ggX3_leave_X3_loanAt
set_option maxRecDepth 20000 in
theorem ggX3_leave_X3_requireState : GoodIn wsX3_leave wsX3_requireState := goodIn_ca (goodIn_r _ [37, 38, 39, 2, 119, 120, 121, 122, 123, 124] (by decide +kernel) (by decide +kernel)) (goodIn_sub (fun _ h => List.mem_cons_of_mem _ (List.mem_append_right _ h)) (by decide +kernel))
set_option maxRecDepth 20000 in
theorem gX3_leave_X3_requireState : GoodIn wsX3_leave (va_wsS RX3 74 yX3_requireState wsX3_requireState) := goodIn_app (goodIn_of _ (by decide +kernel)) ggX3_leave_X3_requireState
set_option maxRecDepth 20000 in
theorem ggX3_leave_X3_fillSheet : GoodIn wsX3_leave wsX3_fillSheet := goodIn_r _ [43, 10, 11, 1, 44, 45, 46, 47, 48, 49, 12, 13, 14, 15, 16, 17, 18, 19, 20, 21, 22, 23, 24, 25, 26, 27, 28, 29, 30, 31, 32, 33, 34, 50, 51, 52, 6, 53, 54, 55, 56, 57, 58, 59, 60, 61, 62, 63, 64, 65, 66, 67, 68, 69, 70, 71, 72, 73, 74, 75, 76, 77, 78, 79, 80, 81, 82, 83, 84, 85, 86, 87, 88, 89, 90, 91, 92, 93, 94, 95, 111, 112, 113, 114, 115, 116, 117, 118, 128, 129, 119, 120, 121, 122, 123, 124, 130, 131, 132, 133, 125, 126, 127] (by decide +kernel) (by decide +kernel)
set_option maxRecDepth 20000 in
theorem gX3_leave_X3_fillSheet : GoodIn wsX3_leave (wsV RX3 85 RX3 yX3_fillSheet wsX3_fillSheet) := goodIn_app (goodIn_of _ (by decide +kernel)) ggX3_leave_X3_fillSheet
set_option maxRecDepth 20000 in
theorem ggX3_leave_X3_loansThatAre : GoodIn wsX3_leave wsX3_loansThatAre := goodIn_r _ [99, 10, 11, 2, 12, 13, 14, 15, 16, 17, 18, 19, 20, 21, 22, 23, 24, 25, 26, 27, 28, 29, 30, 31, 32, 33, 34, 111, 112, 113, 114, 115, 116, 117, 118, 119, 120, 121, 122, 123, 124, 125, 126, 127] (by decide +kernel) (by decide +kernel)
set_option maxRecDepth 20000 in
theorem gX3_leave_X3_loansThatAre : GoodIn wsX3_leave (wsV RX3 88 RX3 yX3_loansThatAre wsX3_loansThatAre) := goodIn_app (goodIn_of _ (by decide +kernel)) ggX3_leave_X3_loansThatAre
set_option maxRecDepth 20000 in
theorem ggX3_leave_X2_allHold : GoodIn wsX3_leave wsX2_allHold := goodIn_r _ [104, 105, 106, 107, 103, 108, 109, 110, 128, 129] (by decide +kernel) (by decide +kernel)
set_option maxRecDepth 20000 in
theorem gX3_leave_X2_allHold : GoodIn wsX3_leave (wsV RX3 92 RX2 yX2_allHold wsX2_allHold) := goodIn_app (goodIn_of _ (by decide +kernel)) ggX3_leave_X2_allHold
set_option maxRecDepth 20000 in
theorem ggX3_swap_X3_loanAt : GoodIn wsX3_swap wsX3_loanAt := goodIn_ca (goodIn_r _ [7, 8, 9, 10, 11, 12, 13, 14, 15, 16, 17, 18, 19, 20, 21, 22, 23, 24, 25, 26, 27, 28, 29, 30, 31, 32, 33, 34, 115, 116, 117, 118, 119, 120, 121, 122, 129, 130, 131] (by decide +kernel) (by decide +kernel)) (goodIn_sub (fun _ h => List.mem_cons_of_mem _ (List.mem_append_left _ (List.mem_append_right _ h))) (by decide +kernel))
set_option maxRecDepth 20000 in
theorem gX3_swap_X3_loanAt : GoodIn wsX3_swap (wsV RX3 70 RX3 yX3_loanAt wsX3_loanAt) := goodIn_app (goodIn_of _ (by decide +kernel)) ggX3_swap_X3_loanAt
set_option maxRecDepth 20000 in
theorem ggX3_swap_X3_requireState : GoodIn wsX3_swap wsX3_requireState := goodIn_ca (goodIn_r _ [37, 38, 39, 2, 123, 124, 125, 126, 127, 128] (by decide +kernel) (by decide +kernel)) (goodIn_sub (fun _ h => List.mem_cons_of_mem _ (List.mem_append_right _ h)) (by decide +kernel))
set_option maxRecDepth 20000 in
theorem gX3_swap_X3_requireState : GoodIn wsX3_swap (va_wsS RX3 74 yX3_requireState wsX3_requireState) := goodIn_app (goodIn_of _ (by decide +kernel)) ggX3_swap_X3_requireState
set_option maxRecDepth 20000 in
theorem ggX3_swap_X3_loansThatAre : GoodIn wsX3_swap wsX3_loansThatAre := goodIn_r _ [43, 10, 11, 2, 12, 13, 14, 15, 16, 17, 18, 19, 20, 21, 22, 23, 24, 25, 26, 27, 28, 29, 30, 31, 32, 33, 34, 115, 116, 117, 118, 119, 120, 121, 122, 123, 124, 125, 126, 127, 128, 129, 130, 131] (by decide +kernel) (by decide +kernel)
set_option maxRecDepth 20000 in
theorem gX3_swap_X3_loansThatAre : GoodIn wsX3_swap (wsV RX3 88 RX3 yX3_loansThatAre wsX3_loansThatAre) := goodIn_app (goodIn_of _ (by decide +kernel)) ggX3_swap_X3_loansThatAre
set_option maxRecDepth 20000 in
theorem ggX3_swap_X3_fillSheet : GoodIn wsX3_swap wsX3_fillSheet := goodIn_r _ [47, 10, 11, 1, 48, 49, 50, 51, 52, 53, 12, 13, 14, 15, 16, 17, 18, 19, 20, 21, 22, 23, 24, 25, 26, 27, 28, 29, 30, 31, 32, 33, 34, 54, 55, 56, 6, 57, 58, 59, 60, 61, 62, 63, 64, 65, 66, 67, 68, 69, 70, 71, 72, 73, 74, 75, 76, 77, 78, 79, 80, 81, 82, 83, 84, 85, 86, 87, 88, 89, 90, 91, 92, 93, 94, 95, 96, 97, 98, 99, 115, 116, 117, 118, 119, 120, 121, 122, 132, 133, 123, 124, 125, 126, 127, 128, 134, 135, 136, 137, 129, 130, 131] (by decide +kernel) (by decide +kernel)
set_option maxRecDepth 20000 in
theorem gX3_swap_X3_fillSheet : GoodIn wsX3_swap (wsV RX3 85 RX3 yX3_fillSheet wsX3_fillSheet) := goodIn_app (goodIn_of _ (by decide +kernel)) ggX3_swap_X3_fillSheet
set_option maxRecDepth 20000 in
theorem ggX3_swap_X2_mostMissing : GoodIn wsX3_swap wsX2_mostMissing := goodIn_r _ [104, 105, 78, 65, 79, 106, 107, 103, 108, 109, 110, 111, 112, 113, 114, 132, 133] (by decide +kernel) (by decide +kernel)
set_option maxRecDepth 20000 in
theorem gX3_swap_X2_mostMissing : GoodIn wsX3_swap (wsV RX3 96 RX2 yX2_mostMissing wsX2_mostMissing) := goodIn_app (goodIn_of _ (by decide +kernel)) ggX3_swap_X2_mostMissing
set_option maxRecDepth 20000 in
theorem ggX3_setArrears_X3_loanAt : GoodIn wsX3_setArrears wsX3_loanAt := goodIn_ca (goodIn_r _ [9, 10, 11, 12, 13, 14, 15, 16, 17, 18, 19, 20, 21, 22, 23, 24, 25, 26, 27, 28, 29, 30, 31, 32, 33, 34, 35, 36, 48, 49, 50, 51, 52, 53, 54, 55, 56, 57, 58] (by decide +kernel) (by decide +kernel)) (goodIn_sub (fun _ h => List.mem_cons_of_mem _ (List.mem_append_left _ (List.mem_append_right _ h))) (by decide +kernel))
set_option maxRecDepth 20000 in
theorem gX3_setArrears_X3_loanAt : GoodIn wsX3_setArrears (wsV RX3 70 RX3 yX3_loanAt wsX3_loanAt) := goodIn_app (goodIn_of _ (by decide +kernel)) ggX3_setArrears_X3_loanAt
set_option maxRecDepth 20000 in
theorem ggX3_setArrears_X3_requireWithin : GoodIn wsX3_setArrears wsX3_requireWithin := goodIn_ca (goodIn_r _ [39, 40, 41] (by decide +kernel) (by decide +kernel)) (goodIn_sub (fun _ h => List.mem_cons_of_mem _ (List.mem_append_right _ h)) (by decide +kernel))
set_option maxRecDepth 20000 in
theorem gX3_setArrears_X3_requireWithin : GoodIn wsX3_setArrears (va_wsS RX3 42 yX3_requireWithin wsX3_requireWithin) := goodIn_app (goodIn_of _ (by decide +kernel)) ggX3_setArrears_X3_requireWithin
set_option maxRecDepth 20000 in
theorem ggX3_setWorth_X3_loanAt : GoodIn wsX3_setWorth wsX3_loanAt := goodIn_ca (goodIn_r _ [6, 7, 8, 9, 10, 11, 12, 13, 14, 15, 16, 17, 18, 19, 20, 21, 22, 23, 24, 25, 26, 27, 28, 29, 30, 31, 32, 33, 45, 46, 47, 48, 49, 50, 51, 52, 53, 54, 55] (by decide +kernel) (by decide +kernel)) (goodIn_sub (fun _ h => List.mem_cons_of_mem _ (List.mem_append_left _ (List.mem_append_right _ h))) (by decide +kernel))
set_option maxRecDepth 20000 in
theorem gX3_setWorth_X3_loanAt : GoodIn wsX3_setWorth (wsV RX3 70 RX3 yX3_loanAt wsX3_loanAt) := goodIn_app (goodIn_of _ (by decide +kernel)) ggX3_setWorth_X3_loanAt
set_option maxRecDepth 20000 in
theorem ggX3_setWorth_X3_requireWithin : GoodIn wsX3_setWorth wsX3_requireWithin := goodIn_ca (goodIn_r _ [36, 37, 38] (by decide +kernel) (by decide +kernel)) (goodIn_sub (fun _ h => List.mem_cons_of_mem _ (List.mem_append_right _ h)) (by decide +kernel))
set_option maxRecDepth 20000 in
theorem gX3_setWorth_X3_requireWithin : GoodIn wsX3_setWorth (va_wsS RX3 42 yX3_requireWithin wsX3_requireWithin) := goodIn_app (goodIn_of _ (by decide +kernel)) ggX3_setWorth_X3_requireWithin
set_option maxRecDepth 20000 in
theorem ggX3_stateOf_X3_loanAt : GoodIn wsX3_stateOf wsX3_loanAt := goodIn_ca (goodIn_r _ [6, 7, 8, 9, 10, 11, 12, 13, 14, 15, 16, 17, 18, 19, 20, 21, 22, 23, 24, 25, 26, 27, 28, 29, 30, 31, 32, 33, 40, 41, 42, 43, 44, 45, 46, 47, 48, 49, 50] (by decide +kernel) (by decide +kernel)) (goodIn_sub (fun _ h => List.mem_cons_of_mem _ (List.mem_append_right _ h)) (by decide +kernel))
set_option maxRecDepth 20000 in
theorem gX3_stateOf_X3_loanAt : GoodIn wsX3_stateOf (wsV RX3 70 RX3 yX3_loanAt wsX3_loanAt) := goodIn_app (goodIn_of _ (by decide +kernel)) ggX3_stateOf_X3_loanAt
set_option maxRecDepth 20000 in
theorem ggX3_counts_X3_loanAt : GoodIn wsX3_counts wsX3_loanAt := goodIn_ca (goodIn_r _ [5, 6, 7, 8, 9, 10, 11, 12, 13, 14, 15, 16, 17, 18, 19, 20, 21, 22, 23, 24, 25, 26, 27, 28, 29, 30, 31, 32, 46, 47, 48, 49, 50, 51, 52, 53, 54, 55, 56] (by decide +kernel) (by decide +kernel)) (goodIn_sub (fun _ h => List.mem_cons_of_mem _ (List.mem_append_right _ h)) (by decide +kernel))
set_option maxRecDepth 20000 in
theorem gX3_counts_X3_loanAt : GoodIn wsX3_counts (wsV RX3 70 RX3 yX3_loanAt wsX3_loanAt) := goodIn_app (goodIn_of _ (by decide +kernel)) ggX3_counts_X3_loanAt
set_option maxRecDepth 20000 in
theorem ggX3_counts_X3_countOf : GoodIn wsX3_counts wsX3_countOf := goodIn_r _ [36, 37, 38, 39, 40, 41, 42, 43, 44, 45, 57, 58, 59, 60, 61, 62, 46, 47, 48, 49, 50, 51, 52, 53] (by decide +kernel) (by decide +kernel)
set_option maxRecDepth 20000 in
theorem gX3_counts_X3_countOf : GoodIn wsX3_counts (wsV RX3 81 RX3 yX3_countOf wsX3_countOf) := goodIn_app (goodIn_of _ (by decide +kernel)) ggX3_counts_X3_countOf
set_option maxRecDepth 20000 in
theorem ggX3_addBond_X3_requireWithin : GoodIn wsX3_addBond wsX3_requireWithin := goodIn_ca (goodIn_r _ [12, 13, 14] (by decide +kernel) (by decide +kernel)) (goodIn_sub (fun _ h => List.mem_cons_of_mem _ (List.mem_append_right _ h)) (by decide +kernel))
set_option maxRecDepth 20000 in
theorem gX3_addBond_X3_requireWithin : GoodIn wsX3_addBond (va_wsS RX3 42 yX3_requireWithin wsX3_requireWithin) := goodIn_app (goodIn_of _ (by decide +kernel)) ggX3_addBond_X3_requireWithin
set_option maxRecDepth 20000 in
theorem ggX3_addBond_X3_requireDueAhead : GoodIn wsX3_addBond wsX3_requireDueAhead := goodIn_ca (goodIn_r _ [18, 13, 14, 19, 90, 91, 92, 93, 94, 95, 96, 97] (by decide +kernel) (by decide +kernel)) (goodIn_sub (fun _ h => List.mem_cons_of_mem _ (List.mem_append_right _ h)) (by decide +kernel))
set_option maxRecDepth 20000 in
theorem gX3_addBond_X3_requireDueAhead : GoodIn wsX3_addBond (wsV RX3 46 RX3 yX3_requireDueAhead wsX3_requireDueAhead) := goodIn_app (goodIn_of _ (by decide +kernel)) ggX3_addBond_X3_requireDueAhead
set_option maxRecDepth 20000 in
theorem ggX3_addBond_Jx4a65c_size_8abf5 : GoodIn wsX3_addBond wsJx4a65c_size_8abf5 := goodIn_r _ [24, 25, 102, 103, 104] (by decide +kernel) (by decide +kernel)
set_option maxRecDepth 20000 in
theorem gX3_addBond_Jx4a65c_size_8abf5 : GoodIn wsX3_addBond (wsV RX3 50 RJx4a65c yJx4a65c_size_8abf5 wsJx4a65c_size_8abf5) := goodIn_app (goodIn_of _ (by decide +kernel)) ggX3_addBond_Jx4a65c_size_8abf5
set_option maxRecDepth 20000 in
theorem ggX3_addBond_X0_init : GoodIn wsX3_addBond wsX0_init := goodIn_r _ [28, 29, 30, 31, 32, 33, 34, 35, 98, 99, 100, 101] (by decide +kernel) (by decide +kernel)
set_option maxRecDepth 20000 in
theorem gX3_addBond_X0_init : GoodIn wsX3_addBond (wsX0_init) := ggX3_addBond_X0_init
set_option maxRecDepth 20000 in
theorem ggX3_addBond_Jx4a65c_add_9ea2d : GoodIn wsX3_addBond wsJx4a65c_add_9ea2d := goodIn_r _ [39, 40, 41, 42, 25, 43, 44, 45, 23, 46, 47, 48, 49, 50, 51, 52, 53, 54, 55, 56, 57, 58, 59, 60, 61, 62, 63, 64, 65, 66, 67, 68, 69, 70, 71, 72, 73, 74, 75, 76, 77, 78, 79, 80, 81, 82, 83, 84, 85, 86, 87, 88, 89, 102, 103, 104] (by decide +kernel) (by decide +kernel)
set_option maxRecDepth 20000 in
theorem gX3_addBond_Jx4a65c_add_9ea2d : GoodIn wsX3_addBond (wsV RX3 66 RJx4a65c yJx4a65c_add_9ea2d wsJx4a65c_add_9ea2d) := goodIn_app (goodIn_of _ (by decide +kernel)) ggX3_addBond_Jx4a65c_add_9ea2d
set_option maxRecDepth 20000 in
theorem ggX3_takeCash_X3_requireWithin : GoodIn wsX3_takeCash wsX3_requireWithin := goodIn_ca (goodIn_r _ [8, 9, 10] (by decide +kernel) (by decide +kernel)) (goodIn_sub (fun _ h => List.mem_cons_of_mem _ (List.mem_append_right _ h)) (by decide +kernel))
set_option maxRecDepth 20000 in
theorem gX3_takeCash_X3_requireWithin : GoodIn wsX3_takeCash (va_wsS RX3 42 yX3_requireWithin wsX3_requireWithin) := goodIn_app (goodIn_of _ (by decide +kernel)) ggX3_takeCash_X3_requireWithin
set_option maxRecDepth 20000 in
theorem ggX3_setRules_X3_requireWithin : GoodIn wsX3_setRules wsX3_requireWithin := goodIn_ca (goodIn_r _ [7, 8, 9] (by decide +kernel) (by decide +kernel)) (goodIn_sub (fun _ h => List.mem_cons_of_mem _ (List.mem_append_right _ h)) (by decide +kernel))
set_option maxRecDepth 20000 in
theorem gX3_setRules_X3_requireWithin : GoodIn wsX3_setRules (va_wsS RX3 42 yX3_requireWithin wsX3_requireWithin) := goodIn_app (goodIn_of _ (by decide +kernel)) ggX3_setRules_X3_requireWithin
set_option maxRecDepth 20000 in
theorem ggX3_bondState_X3_bondAt : GoodIn wsX3_bondState wsX3_bondAt := goodIn_ca (goodIn_r _ [6, 7, 8, 9, 10, 11, 12, 13, 14, 15, 16, 17, 18, 19, 20, 21, 22, 23, 24, 25, 26, 27, 28, 29, 30, 31, 32, 33, 38, 39, 40, 41, 42, 43, 44, 45, 46, 47, 48] (by decide +kernel) (by decide +kernel)) (goodIn_sub (fun _ h => List.mem_cons_of_mem _ (List.mem_append_right _ h)) (by decide +kernel))
set_option maxRecDepth 20000 in
theorem gX3_bondState_X3_bondAt : GoodIn wsX3_bondState (wsV RX3 119 RX3 yX3_bondAt wsX3_bondAt) := goodIn_app (goodIn_of _ (by decide +kernel)) ggX3_bondState_X3_bondAt
set_option maxRecDepth 20000 in
theorem ggX3_dueOf_X3_bondAt : GoodIn wsX3_dueOf wsX3_bondAt := goodIn_ca (goodIn_r _ [6, 7, 8, 9, 10, 11, 12, 13, 14, 15, 16, 17, 18, 19, 20, 21, 22, 23, 24, 25, 26, 27, 28, 29, 30, 31, 32, 33, 38, 39, 40, 41, 42, 43, 44, 45, 46, 47, 48] (by decide +kernel) (by decide +kernel)) (goodIn_sub (fun _ h => List.mem_cons_of_mem _ (List.mem_append_right _ h)) (by decide +kernel))
set_option maxRecDepth 20000 in
theorem gX3_dueOf_X3_bondAt : GoodIn wsX3_dueOf (wsV RX3 119 RX3 yX3_bondAt wsX3_bondAt) := goodIn_app (goodIn_of _ (by decide +kernel)) ggX3_dueOf_X3_bondAt
set_option maxRecDepth 20000 in
theorem ggX3_debt_Jx4a65c_size_8abf5 : GoodIn wsX3_debt wsJx4a65c_size_8abf5 := goodIn_r _ [9, 10, 40, 41, 42] (by decide +kernel) (by decide +kernel)
set_option maxRecDepth 20000 in
theorem gX3_debt_Jx4a65c_size_8abf5 : GoodIn wsX3_debt (wsV RX3 50 RJx4a65c yJx4a65c_size_8abf5 wsJx4a65c_size_8abf5) := goodIn_app (goodIn_of _ (by decide +kernel)) ggX3_debt_Jx4a65c_size_8abf5
set_option maxRecDepth 20000 in
theorem ggX3_debt_Jx4a65c_get_915e3 : GoodIn wsX3_debt wsJx4a65c_get_915e3 := goodIn_r _ [14, 10, 15, 16, 17, 18, 19, 20, 21, 22, 23, 24, 25, 8, 26, 27, 40, 41, 42] (by decide +kernel) (by decide +kernel)
set_option maxRecDepth 20000 in
theorem gX3_debt_Jx4a65c_get_915e3 : GoodIn wsX3_debt (wsV RX3 127 RJx4a65c yJx4a65c_get_915e3 wsJx4a65c_get_915e3) := goodIn_app (goodIn_of _ (by decide +kernel)) ggX3_debt_Jx4a65c_get_915e3
set_option maxRecDepth 20000 in
theorem ggX3_substitutes_X3_debt : GoodIn wsX3_substitutes wsX3_debt := goodIn_r _ [10, 11, 12, 13, 14, 15, 16, 17, 18, 19, 20, 21, 22, 23, 24, 25, 26, 27, 28, 29, 30, 31, 32, 33, 34, 35, 36, 37, 38, 39, 40, 41, 42, 43, 44, 45, 46, 47, 48, 49, 50, 51, 52] (by decide +kernel) (by decide +kernel)
set_option maxRecDepth 20000 in
theorem gX3_substitutes_X3_debt : GoodIn wsX3_substitutes (wsV RX3 134 RX3 yX3_debt wsX3_debt) := goodIn_app (goodIn_of _ (by decide +kernel)) ggX3_substitutes_X3_debt
set_option maxRecDepth 20000 in
theorem ggX3_pass_X3_requireWithin : GoodIn wsX3_pass wsX3_requireWithin := goodIn_ca (goodIn_r _ [5, 6, 7] (by decide +kernel) (by decide +kernel)) (goodIn_sub (fun _ h => List.mem_cons_of_mem _ (List.mem_append_right _ h)) (by decide +kernel))
set_option maxRecDepth 20000 in
theorem gX3_pass_X3_requireWithin : GoodIn wsX3_pass (va_wsS RX3 42 yX3_requireWithin wsX3_requireWithin) := goodIn_app (goodIn_of _ (by decide +kernel)) ggX3_pass_X3_requireWithin
set_option maxRecDepth 20000 in
theorem ggX3_pass_X3_receiveDueLoans : GoodIn wsX3_pass wsX3_receiveDueLoans := goodIn_r _ [11, 12, 13, 14, 15, 1, 16, 17, 18, 19, 20, 21, 22, 23, 24, 25, 26, 27, 28, 29, 30, 31, 32, 33, 34, 35, 36, 37, 38, 39, 40, 41, 56, 57, 58, 59, 60, 61, 62, 63, 64, 65, 66, 67, 68, 69, 70, 71, 72] (by decide +kernel) (by decide +kernel)
set_option maxRecDepth 20000 in
theorem gX3_pass_X3_receiveDueLoans : GoodIn wsX3_pass (wsV RX3 142 RX3 yX3_receiveDueLoans wsX3_receiveDueLoans) := goodIn_app (goodIn_of _ (by decide +kernel)) ggX3_pass_X3_receiveDueLoans
set_option maxRecDepth 20000 in
theorem ggX3_pass_X3_settleDueBonds : GoodIn wsX3_pass wsX3_settleDueBonds := goodIn_r _ [45, 46, 47, 48, 49, 1, 19, 20, 21, 22, 23, 24, 25, 26, 27, 28, 29, 30, 31, 32, 33, 34, 35, 36, 37, 38, 39, 40, 41, 50, 51, 52, 4, 53, 17, 54, 55, 56, 57, 58, 59, 60, 61, 62, 63, 73, 74, 75, 76, 70, 71, 72] (by decide +kernel) (by decide +kernel)
set_option maxRecDepth 20000 in
theorem gX3_pass_X3_settleDueBonds : GoodIn wsX3_pass (wsV RX3 145 RX3 yX3_settleDueBonds wsX3_settleDueBonds) := goodIn_app (goodIn_of _ (by decide +kernel)) ggX3_pass_X3_settleDueBonds
set_option maxRecDepth 20000 in
theorem ggX3_holds_X3_lacking : GoodIn wsX3_holds wsX3_lacking := goodIn_ca (goodIn_r _ [5, 6, 7, 8, 4, 9, 10, 11, 12, 13, 14, 15, 16, 17, 18, 19, 20, 21, 22, 23, 24, 25, 26, 27, 28, 29, 30, 31, 32, 33, 34, 35, 36, 37, 38, 39, 40, 41, 42, 43, 44, 45, 46, 47, 48, 49, 50, 51, 52, 53, 54, 55, 56, 57, 58, 59, 60, 61, 62, 63, 64, 65, 66, 67, 68, 69, 70, 71, 72, 73, 74, 75, 76, 77, 78, 79, 80, 81, 82, 83, 84, 85, 86, 87, 88, 89, 90, 91, 92, 93, 94, 95, 96, 97, 98, 99, 100, 101, 102, 103, 104, 105, 106, 107, 108, 109, 110, 111, 112, 113, 114, 115, 116, 117, 118, 119, 120, 121, 122, 123, 124, 125, 126, 127, 128, 129, 130, 131, 132, 133, 134, 135] (by decide +kernel) (by decide +kernel)) (goodIn_sub (fun _ h => List.mem_cons_of_mem _ (List.mem_append_right _ h)) (by decide +kernel))
set_option maxRecDepth 20000 in
theorem gX3_holds_X3_lacking : GoodIn wsX3_holds (wsV RX3 148 RX3 yX3_lacking wsX3_lacking) := goodIn_app (goodIn_of _ (by decide +kernel)) ggX3_holds_X3_lacking
set_option maxRecDepth 20000 in
theorem ggX3_lacking_X3_requireWithin : GoodIn wsX3_lacking wsX3_requireWithin := goodIn_ca (goodIn_r _ [5, 6, 7] (by decide +kernel) (by decide +kernel)) (goodIn_sub (fun _ h => List.mem_cons_of_mem _ (List.mem_append_right _ h)) (by decide +kernel))
set_option maxRecDepth 20000 in
theorem gX3_lacking_X3_requireWithin : GoodIn wsX3_lacking (va_wsS RX3 42 yX3_requireWithin wsX3_requireWithin) := goodIn_app (goodIn_of _ (by decide +kernel)) ggX3_lacking_X3_requireWithin
set_option maxRecDepth 20000 in
theorem ggX3_lacking_X3_fillSheet : GoodIn wsX3_lacking wsX3_fillSheet := goodIn_r _ [11, 12, 13, 1, 14, 15, 16, 17, 18, 19, 20, 21, 22, 23, 24, 25, 26, 27, 28, 29, 30, 31, 32, 33, 34, 35, 36, 37, 38, 39, 40, 41, 42, 43, 44, 45, 4, 46, 47, 48, 49, 50, 51, 52, 53, 54, 55, 56, 57, 58, 59, 60, 61, 62, 63, 64, 65, 66, 67, 68, 69, 70, 71, 72, 73, 74, 75, 76, 77, 78, 79, 80, 81, 82, 83, 84, 85, 86, 87, 88, 109, 110, 111, 112, 113, 114, 115, 116, 117, 118, 119, 120, 121, 122, 123, 124, 125, 126, 127, 128, 129, 130, 131] (by decide +kernel) (by decide +kernel)
set_option maxRecDepth 20000 in
theorem gX3_lacking_X3_fillSheet : GoodIn wsX3_lacking (wsV RX3 85 RX3 yX3_fillSheet wsX3_fillSheet) := goodIn_app (goodIn_of _ (by decide +kernel)) ggX3_lacking_X3_fillSheet
set_option maxRecDepth 20000 in
theorem ggX3_lacking_X3_loansThatAre : GoodIn wsX3_lacking wsX3_loansThatAre := goodIn_r _ [92, 12, 13, 93, 20, 21, 22, 23, 24, 25, 26, 27, 28, 29, 30, 31, 32, 33, 34, 35, 36, 37, 38, 39, 40, 41, 42, 109, 110, 111, 112, 113, 114, 115, 116, 119, 120, 121, 122, 123, 124, 129, 130, 131] (by decide +kernel) (by decide +kernel)
set_option maxRecDepth 20000 in
theorem gX3_lacking_X3_loansThatAre : GoodIn wsX3_lacking (wsV RX3 88 RX3 yX3_loansThatAre wsX3_loansThatAre) := goodIn_app (goodIn_of _ (by decide +kernel)) ggX3_lacking_X3_loansThatAre
set_option maxRecDepth 20000 in
theorem ggX3_lacking_X2_mostMissing : GoodIn wsX3_lacking wsX2_mostMissing := goodIn_r _ [98, 99, 67, 54, 68, 100, 101, 97, 102, 103, 104, 105, 106, 107, 108, 117, 118] (by decide +kernel) (by decide +kernel)
set_option maxRecDepth 20000 in
theorem gX3_lacking_X2_mostMissing : GoodIn wsX3_lacking (wsV RX3 96 RX2 yX2_mostMissing wsX2_mostMissing) := goodIn_app (goodIn_of _ (by decide +kernel)) ggX3_lacking_X2_mostMissing
set_option maxRecDepth 20000 in
theorem ggX3_leastToAdd_X3_fillSheet : GoodIn wsX3_leastToAdd wsX3_fillSheet := goodIn_r _ [6, 7, 8, 1, 9, 10, 11, 12, 13, 14, 15, 16, 17, 18, 19, 20, 21, 22, 23, 24, 25, 26, 27, 28, 29, 30, 31, 32, 33, 34, 35, 36, 37, 38, 39, 40, 5, 41, 42, 43, 44, 45, 46, 47, 48, 49, 50, 51, 52, 53, 54, 55, 56, 57, 58, 59, 60, 61, 62, 63, 64, 65, 66, 67, 68, 69, 70, 71, 72, 73, 74, 75, 76, 77, 78, 79, 80, 81, 82, 83, 113, 114, 115, 116, 117, 118, 119, 120, 121, 122, 123, 124, 125, 126, 127, 128, 129, 130, 131, 132, 133, 134, 135] (by decide +kernel) (by decide +kernel)
set_option maxRecDepth 20000 in
theorem gX3_leastToAdd_X3_fillSheet : GoodIn wsX3_leastToAdd (wsV RX3 85 RX3 yX3_fillSheet wsX3_fillSheet) := goodIn_app (goodIn_of _ (by decide +kernel)) ggX3_leastToAdd_X3_fillSheet
set_option maxRecDepth 20000 in
theorem ggX3_leastToAdd_X3_loansThatAre : GoodIn wsX3_leastToAdd wsX3_loansThatAre := goodIn_r _ [87, 7, 8, 88, 15, 16, 17, 18, 19, 20, 21, 22, 23, 24, 25, 26, 27, 28, 29, 30, 31, 32, 33, 34, 35, 36, 37, 113, 114, 115, 116, 117, 118, 119, 120, 123, 124, 125, 126, 127, 128, 133, 134, 135] (by decide +kernel) (by decide +kernel)
set_option maxRecDepth 20000 in
theorem gX3_leastToAdd_X3_loansThatAre : GoodIn wsX3_leastToAdd (wsV RX3 88 RX3 yX3_loansThatAre wsX3_loansThatAre) := goodIn_app (goodIn_of _ (by decide +kernel)) ggX3_leastToAdd_X3_loansThatAre
set_option maxRecDepth 20000 in
theorem ggX3_leastToAdd_X3_leastWith : GoodIn wsX3_leastToAdd wsX3_leastWith := goodIn_r _ [91, 92, 93, 5, 94, 95, 96, 97, 98, 99, 100, 101, 102, 103, 104, 105, 106, 107, 108, 109, 110, 111, 112, 89, 90, 121, 122] (by decide +kernel) (by decide +kernel)
set_option maxRecDepth 20000 in
theorem gX3_leastToAdd_X3_leastWith : GoodIn wsX3_leastToAdd (va_wsS RX3 152 yX3_leastWith wsX3_leastWith) := goodIn_app (goodIn_of _ (by decide +kernel)) ggX3_leastToAdd_X3_leastWith
set_option maxRecDepth 20000 in
theorem ggX3_leastToAddByAll_X3_fillSheet : GoodIn wsX3_leastToAddByAll wsX3_fillSheet := goodIn_r _ [7, 1, 8, 2, 9, 10, 11, 12, 13, 14, 15, 16, 17, 18, 19, 20, 21, 22, 23, 24, 25, 26, 27, 28, 29, 30, 31, 32, 33, 34, 35, 36, 37, 38, 39, 40, 6, 41, 42, 43, 44, 45, 46, 47, 48, 49, 50, 51, 52, 53, 54, 55, 56, 57, 58, 59, 60, 61, 62, 63, 64, 65, 66, 67, 68, 69, 70, 71, 72, 73, 74, 75, 76, 77, 78, 79, 80, 81, 82, 83, 110, 111, 112, 113, 114, 115, 116, 117, 118, 119, 120, 121, 122, 123, 124, 125, 126, 127, 128, 129, 130, 131, 132] (by decide +kernel) (by decide +kernel)
set_option maxRecDepth 20000 in
theorem gX3_leastToAddByAll_X3_fillSheet : GoodIn wsX3_leastToAddByAll (wsV RX3 85 RX3 yX3_fillSheet wsX3_fillSheet) := goodIn_app (goodIn_of _ (by decide +kernel)) ggX3_leastToAddByAll_X3_fillSheet
set_option maxRecDepth 20000 in
theorem ggX3_leastToAddByAll_X3_loansThatAre : GoodIn wsX3_leastToAddByAll wsX3_loansThatAre := goodIn_r _ [87, 1, 8, 88, 15, 16, 17, 18, 19, 20, 21, 22, 23, 24, 25, 26, 27, 28, 29, 30, 31, 32, 33, 34, 35, 36, 37, 110, 111, 112, 113, 114, 115, 116, 117, 120, 121, 122, 123, 124, 125, 130, 131, 132] (by decide +kernel) (by decide +kernel)
set_option maxRecDepth 20000 in
theorem gX3_leastToAddByAll_X3_loansThatAre : GoodIn wsX3_leastToAddByAll (wsV RX3 88 RX3 yX3_loansThatAre wsX3_loansThatAre) := goodIn_app (goodIn_of _ (by decide +kernel)) ggX3_leastToAddByAll_X3_loansThatAre
set_option maxRecDepth 20000 in
theorem ggX3_leastToAddByAll_Jx4a65c_size_8abf5 : GoodIn wsX3_leastToAddByAll wsJx4a65c_size_8abf5 := goodIn_r _ [19, 20, 130, 131, 132] (by decide +kernel) (by decide +kernel)
set_option maxRecDepth 20000 in
theorem gX3_leastToAddByAll_Jx4a65c_size_8abf5 : GoodIn wsX3_leastToAddByAll (wsV RX3 50 RJx4a65c yJx4a65c_size_8abf5 wsJx4a65c_size_8abf5) := goodIn_app (goodIn_of _ (by decide +kernel)) ggX3_leastToAddByAll_Jx4a65c_size_8abf5
set_option maxRecDepth 20000 in
theorem ggX3_leastToAddByAll_X3_isLess : GoodIn wsX3_leastToAddByAll wsX3_isLess := goodIn_r _ [91, 92, 93, 94, 95, 96, 97, 98] (by decide +kernel) (by decide +kernel)
set_option maxRecDepth 20000 in
theorem gX3_leastToAddByAll_X3_isLess : GoodIn wsX3_leastToAddByAll (va_wsS RX3 156 yX3_isLess wsX3_isLess) := goodIn_app (goodIn_of _ (by decide +kernel)) ggX3_leastToAddByAll_X3_isLess
set_option maxRecDepth 20000 in
theorem ggX3_leastToAddByAll_X2_allHold : GoodIn wsX3_leastToAddByAll wsX2_allHold := goodIn_r _ [103, 104, 105, 106, 102, 107, 108, 109, 118, 119] (by decide +kernel) (by decide +kernel)
set_option maxRecDepth 20000 in
theorem gX3_leastToAddByAll_X2_allHold : GoodIn wsX3_leastToAddByAll (wsV RX3 92 RX2 yX2_allHold wsX2_allHold) := goodIn_app (goodIn_of _ (by decide +kernel)) ggX3_leastToAddByAll_X2_allHold
set_option maxRecDepth 20000 in
theorem ggX3_loanAt_Jx4a65c_size_8abf5 : GoodIn wsX3_loanAt wsJx4a65c_size_8abf5 := goodIn_r _ [9, 10, 36, 37, 38] (by decide +kernel) (by decide +kernel)
set_option maxRecDepth 20000 in
theorem gX3_loanAt_Jx4a65c_size_8abf5 : GoodIn wsX3_loanAt (wsV RX3 50 RJx4a65c yJx4a65c_size_8abf5 wsJx4a65c_size_8abf5) := goodIn_app (goodIn_of _ (by decide +kernel)) ggX3_loanAt_Jx4a65c_size_8abf5
set_option maxRecDepth 20000 in
theorem ggX3_loanAt_Jx4a65c_get_915e3 : GoodIn wsX3_loanAt wsJx4a65c_get_915e3 := goodIn_r _ [14, 10, 15, 16, 17, 18, 19, 20, 21, 22, 23, 24, 25, 8, 26, 27, 36, 37, 38] (by decide +kernel) (by decide +kernel)
set_option maxRecDepth 20000 in
theorem gX3_loanAt_Jx4a65c_get_915e3 : GoodIn wsX3_loanAt (wsV RX3 127 RJx4a65c yJx4a65c_get_915e3 wsJx4a65c_get_915e3) := goodIn_app (goodIn_of _ (by decide +kernel)) ggX3_loanAt_Jx4a65c_get_915e3
set_option maxRecDepth 20000 in
theorem ggX3_bondAt_Jx4a65c_size_8abf5 : GoodIn wsX3_bondAt wsJx4a65c_size_8abf5 := goodIn_r _ [9, 10, 36, 37, 38] (by decide +kernel) (by decide +kernel)
set_option maxRecDepth 20000 in
theorem gX3_bondAt_Jx4a65c_size_8abf5 : GoodIn wsX3_bondAt (wsV RX3 50 RJx4a65c yJx4a65c_size_8abf5 wsJx4a65c_size_8abf5) := goodIn_app (goodIn_of _ (by decide +kernel)) ggX3_bondAt_Jx4a65c_size_8abf5
set_option maxRecDepth 20000 in
theorem ggX3_bondAt_Jx4a65c_get_915e3 : GoodIn wsX3_bondAt wsJx4a65c_get_915e3 := goodIn_r _ [14, 10, 15, 16, 17, 18, 19, 20, 21, 22, 23, 24, 25, 8, 26, 27, 36, 37, 38] (by decide +kernel) (by decide +kernel)
set_option maxRecDepth 20000 in
theorem gX3_bondAt_Jx4a65c_get_915e3 : GoodIn wsX3_bondAt (wsV RX3 127 RJx4a65c yJx4a65c_get_915e3 wsJx4a65c_get_915e3) := goodIn_app (goodIn_of _ (by decide +kernel)) ggX3_bondAt_Jx4a65c_get_915e3
set_option maxRecDepth 20000 in
theorem ggX3_receiveDueLoans_Jx4a65c_size_8abf5 : GoodIn wsX3_receiveDueLoans wsJx4a65c_size_8abf5 := goodIn_r _ [13, 14, 46, 47, 48] (by decide +kernel) (by decide +kernel)
set_option maxRecDepth 20000 in
theorem gX3_receiveDueLoans_Jx4a65c_size_8abf5 : GoodIn wsX3_receiveDueLoans (wsV RX3 50 RJx4a65c yJx4a65c_size_8abf5 wsJx4a65c_size_8abf5) := goodIn_app (goodIn_of _ (by decide +kernel)) ggX3_receiveDueLoans_Jx4a65c_size_8abf5
set_option maxRecDepth 20000 in
theorem ggX3_receiveDueLoans_Jx4a65c_get_915e3 : GoodIn wsX3_receiveDueLoans wsJx4a65c_get_915e3 := goodIn_r _ [18, 14, 19, 20, 21, 22, 23, 24, 25, 26, 27, 28, 29, 12, 30, 31, 46, 47, 48] (by decide +kernel) (by decide +kernel)
set_option maxRecDepth 20000 in
theorem gX3_receiveDueLoans_Jx4a65c_get_915e3 : GoodIn wsX3_receiveDueLoans (wsV RX3 127 RJx4a65c yJx4a65c_get_915e3 wsJx4a65c_get_915e3) := goodIn_app (goodIn_of _ (by decide +kernel)) ggX3_receiveDueLoans_Jx4a65c_get_915e3
set_option maxRecDepth 20000 in
theorem ggX3_settleDueBonds_Jx4a65c_size_8abf5 : GoodIn wsX3_settleDueBonds wsJx4a65c_size_8abf5 := goodIn_r _ [10, 11, 49, 50, 51] (by decide +kernel) (by decide +kernel)
set_option maxRecDepth 20000 in
theorem gX3_settleDueBonds_Jx4a65c_size_8abf5 : GoodIn wsX3_settleDueBonds (wsV RX3 50 RJx4a65c yJx4a65c_size_8abf5 wsJx4a65c_size_8abf5) := goodIn_app (goodIn_of _ (by decide +kernel)) ggX3_settleDueBonds_Jx4a65c_size_8abf5
set_option maxRecDepth 20000 in
theorem ggX3_settleDueBonds_Jx4a65c_get_915e3 : GoodIn wsX3_settleDueBonds wsJx4a65c_get_915e3 := goodIn_r _ [15, 11, 16, 17, 18, 19, 20, 21, 22, 23, 24, 25, 26, 9, 27, 28, 49, 50, 51] (by decide +kernel) (by decide +kernel)
set_option maxRecDepth 20000 in
theorem gX3_settleDueBonds_Jx4a65c_get_915e3 : GoodIn wsX3_settleDueBonds (wsV RX3 127 RJx4a65c yJx4a65c_get_915e3 wsJx4a65c_get_915e3) := goodIn_app (goodIn_of _ (by decide +kernel)) ggX3_settleDueBonds_Jx4a65c_get_915e3
set_option maxRecDepth 20000 in
theorem ggX3_settleDueBonds_X3_settle : GoodIn wsX3_settleDueBonds wsX3_settle := goodIn_r _ [33, 34, 35, 3, 36, 5, 4, 37, 38, 39, 40, 41, 42, 43, 44, 45, 46, 47, 48] (by decide +kernel) (by decide +kernel)
set_option maxRecDepth 20000 in
theorem gX3_settleDueBonds_X3_settle : GoodIn wsX3_settleDueBonds (wsV RX3 178 RX3 yX3_settle wsX3_settle) := goodIn_app (goodIn_of _ (by decide +kernel)) ggX3_settleDueBonds_X3_settle
set_option maxRecDepth 20000 in
theorem ggX3_loansThatAre_Jx4a65c_size_8abf5 : GoodIn wsX3_loansThatAre wsJx4a65c_size_8abf5 := goodIn_r _ [8, 9, 41, 42, 43] (by decide +kernel) (by decide +kernel)
set_option maxRecDepth 20000 in
theorem gX3_loansThatAre_Jx4a65c_size_8abf5 : GoodIn wsX3_loansThatAre (wsV RX3 50 RJx4a65c yJx4a65c_size_8abf5 wsJx4a65c_size_8abf5) := goodIn_app (goodIn_of _ (by decide +kernel)) ggX3_loansThatAre_Jx4a65c_size_8abf5
set_option maxRecDepth 20000 in
theorem ggX3_loansThatAre_Jx4a65c_get_915e3 : GoodIn wsX3_loansThatAre wsJx4a65c_get_915e3 := goodIn_r _ [13, 9, 14, 15, 16, 17, 18, 19, 20, 21, 22, 23, 24, 7, 25, 26, 41, 42, 43] (by decide +kernel) (by decide +kernel)
set_option maxRecDepth 20000 in
theorem gX3_loansThatAre_Jx4a65c_get_915e3 : GoodIn wsX3_loansThatAre (wsV RX3 127 RJx4a65c yJx4a65c_get_915e3 wsJx4a65c_get_915e3) := goodIn_app (goodIn_of _ (by decide +kernel)) ggX3_loansThatAre_Jx4a65c_get_915e3
set_option maxRecDepth 20000 in
theorem ggX3_fillSheet_Jx4a65c_size_8abf5 : GoodIn wsX3_fillSheet wsJx4a65c_size_8abf5 := goodIn_r _ [14, 15, 100, 101, 102] (by decide +kernel) (by decide +kernel)
set_option maxRecDepth 20000 in
theorem gX3_fillSheet_Jx4a65c_size_8abf5 : GoodIn wsX3_fillSheet (wsV RX3 50 RJx4a65c yJx4a65c_size_8abf5 wsJx4a65c_size_8abf5) := goodIn_app (goodIn_of _ (by decide +kernel)) ggX3_fillSheet_Jx4a65c_size_8abf5
set_option maxRecDepth 20000 in
theorem ggX3_fillSheet_Jx4a65c_get_915e3 : GoodIn wsX3_fillSheet wsJx4a65c_get_915e3 := goodIn_r _ [19, 15, 20, 21, 22, 23, 24, 25, 26, 27, 28, 29, 30, 13, 31, 32, 100, 101, 102] (by decide +kernel) (by decide +kernel)
set_option maxRecDepth 20000 in
theorem gX3_fillSheet_Jx4a65c_get_915e3 : GoodIn wsX3_fillSheet (wsV RX3 127 RJx4a65c yJx4a65c_get_915e3 wsJx4a65c_get_915e3) := goodIn_app (goodIn_of _ (by decide +kernel)) ggX3_fillSheet_Jx4a65c_get_915e3
set_option maxRecDepth 20000 in
theorem ggX3_fillSheet_X3_countOf : GoodIn wsX3_fillSheet wsX3_countOf := goodIn_r _ [37, 38, 39, 40, 41, 42, 43, 44, 45, 46, 90, 91, 92, 93, 94, 95, 80, 81, 82, 83, 84, 85, 86, 87] (by decide +kernel) (by decide +kernel)
set_option maxRecDepth 20000 in
theorem gX3_fillSheet_X3_countOf : GoodIn wsX3_fillSheet (wsV RX3 81 RX3 yX3_countOf wsX3_countOf) := goodIn_app (goodIn_of _ (by decide +kernel)) ggX3_fillSheet_X3_countOf
set_option maxRecDepth 20000 in
theorem ggX3_fillSheet_X3_fillRow : GoodIn wsX3_fillSheet wsX3_fillRow := goodIn_r _ [50, 51, 52, 53, 54, 36, 55, 56, 57, 58, 45, 59, 80, 81, 82, 83, 84, 85, 86, 87] (by decide +kernel) (by decide +kernel)
set_option maxRecDepth 20000 in
theorem gX3_fillSheet_X3_fillRow : GoodIn wsX3_fillSheet (wsV RX3 196 RX3 yX3_fillRow wsX3_fillRow) := goodIn_app (goodIn_of _ (by decide +kernel)) ggX3_fillSheet_X3_fillRow
set_option maxRecDepth 20000 in
theorem ggX3_fillSheet_X3_startWithCashAndSubstitutes : GoodIn wsX3_fillSheet wsX3_startWithCashAndSubstitutes := goodIn_r _ [63, 64, 65, 66, 67, 36, 68, 43, 44, 45, 46, 69, 70, 71, 72, 7, 8, 9, 73, 10, 11, 12, 13, 14, 15, 16, 17, 18, 19, 20, 21, 22, 23, 24, 25, 26, 27, 28, 29, 30, 31, 32, 80, 81, 82, 83, 84, 85, 86, 87, 96, 97, 98, 99, 100, 101, 102] (by decide +kernel) (by decide +kernel)
set_option maxRecDepth 20000 in
theorem gX3_fillSheet_X3_startWithCashAndSubstitutes : GoodIn wsX3_fillSheet (wsV RX3 204 RX3 yX3_startWithCashAndSubstitutes wsX3_startWithCashAndSubstitutes) := goodIn_app (goodIn_of _ (by decide +kernel)) ggX3_fillSheet_X3_startWithCashAndSubstitutes
set_option maxRecDepth 20000 in
theorem ggX3_fillSheet_X3_addBondTo : GoodIn wsX3_fillSheet wsX3_addBondTo := goodIn_r _ [77, 73, 78, 79, 51, 52, 53, 54, 36, 55, 56, 57, 58, 45, 59, 96, 97, 98, 99, 80, 81, 82, 83, 84, 85, 86, 87] (by decide +kernel) (by decide +kernel)
set_option maxRecDepth 20000 in
theorem gX3_fillSheet_X3_addBondTo : GoodIn wsX3_fillSheet (wsV RX3 208 RX3 yX3_addBondTo wsX3_addBondTo) := goodIn_app (goodIn_of _ (by decide +kernel)) ggX3_fillSheet_X3_addBondTo
set_option maxRecDepth 20000 in
theorem ggX3_fillRow_X3_worthNow : GoodIn wsX3_fillRow wsX3_worthNow := goodIn_r _ [6, 7, 1, 8, 9, 10, 11, 12, 13, 14, 15, 16, 17, 18, 19] (by decide +kernel) (by decide +kernel)
set_option maxRecDepth 20000 in
theorem gX3_fillRow_X3_worthNow : GoodIn wsX3_fillRow (wsV RX3 212 RX3 yX3_worthNow wsX3_worthNow) := goodIn_app (goodIn_of _ (by decide +kernel)) ggX3_fillRow_X3_worthNow
set_option maxRecDepth 20000 in
theorem ggX3_startWithCashAndSubstitutes_X3_substitutes : GoodIn wsX3_startWithCashAndSubstitutes wsX3_substitutes := goodIn_r _ [6, 1, 7, 8, 9, 10, 11, 12, 13, 5, 14, 15, 16, 17, 18, 19, 20, 21, 22, 23, 24, 25, 26, 27, 28, 29, 30, 31, 32, 33, 34, 35, 36, 37, 38, 39, 40, 41, 42, 43, 44, 45, 46, 47, 48, 49, 50, 51, 52, 53, 54, 55, 56] (by decide +kernel) (by decide +kernel)
set_option maxRecDepth 20000 in
theorem gX3_startWithCashAndSubstitutes_X3_substitutes : GoodIn wsX3_startWithCashAndSubstitutes (wsV RX3 215 RX3 yX3_substitutes wsX3_substitutes) := goodIn_app (goodIn_of _ (by decide +kernel)) ggX3_startWithCashAndSubstitutes_X3_substitutes
set_option maxRecDepth 20000 in
theorem ggX3_addBondTo_X3_worthNow : GoodIn wsX3_addBondTo wsX3_worthNow := goodIn_r _ [9, 10, 4, 11, 12, 13, 14, 19, 20, 21, 22, 23, 24, 25, 26] (by decide +kernel) (by decide +kernel)
set_option maxRecDepth 20000 in
theorem gX3_addBondTo_X3_worthNow : GoodIn wsX3_addBondTo (wsV RX3 212 RX3 yX3_worthNow wsX3_worthNow) := goodIn_app (goodIn_of _ (by decide +kernel)) ggX3_addBondTo_X3_worthNow
set_option maxRecDepth 20000 in
theorem ggX3_leastWith_X3_isLess : GoodIn wsX3_leastWith wsX3_isLess := goodIn_r _ [4, 5, 6, 7, 8, 9, 10, 11] (by decide +kernel) (by decide +kernel)
set_option maxRecDepth 20000 in
theorem gX3_leastWith_X3_isLess : GoodIn wsX3_leastWith (va_wsS RX3 156 yX3_isLess wsX3_isLess) := goodIn_app (goodIn_of _ (by decide +kernel)) ggX3_leastWith_X3_isLess
set_option maxRecDepth 20000 in
theorem ggX3_leastWith_X2_allHold : GoodIn wsX3_leastWith wsX2_allHold := goodIn_r _ [16, 17, 18, 19, 15, 20, 21, 22, 25, 26] (by decide +kernel) (by decide +kernel)
set_option maxRecDepth 20000 in
theorem gX3_leastWith_X2_allHold : GoodIn wsX3_leastWith (wsV RX3 92 RX2 yX2_allHold wsX2_allHold) := goodIn_app (goodIn_of _ (by decide +kernel)) ggX3_leastWith_X2_allHold
set_option maxRecDepth 20000 in
theorem ggX3_leastWith_X3_leastWith : GoodIn wsX3_leastWith wsX3_leastWith := goodIn_r _ [0, 1, 2, 3, 4, 5, 6, 7, 8, 9, 10, 11, 12, 13, 14, 15, 16, 17, 18, 19, 20, 21, 22, 23, 24, 25, 26] (by decide +kernel) (by decide +kernel)
set_option maxRecDepth 20000 in
theorem gX3_leastWith_X3_leastWith : GoodIn wsX3_leastWith (va_wsS RX3 152 yX3_leastWith wsX3_leastWith) := goodIn_app (goodIn_of _ (by decide +kernel)) ggX3_leastWith_X3_leastWith
set_option maxRecDepth 20000 in
theorem ggX3_isLess_J6_bitCount_0f7a4 : GoodIn wsX3_isLess wsJ6_bitCount_0f7a4 := goodIn_r _ [4, 5, 6, 7] (by decide +kernel) (by decide +kernel)
set_option maxRecDepth 20000 in
theorem gX3_isLess_J6_bitCount_0f7a4 : GoodIn wsX3_isLess (va_wsS RX3 218 yJ6_bitCount_0f7a4 wsJ6_bitCount_0f7a4) := goodIn_app (goodIn_of _ (by decide +kernel)) ggX3_isLess_J6_bitCount_0f7a4
set_option maxRecDepth 20000 in
theorem ggJxc12de_init_da8c8_Jxa1e45_init_da8c8 : GoodIn wsJxc12de_init_da8c8 wsJxa1e45_init_da8c8 := goodIn_r _ [5, 6, 7, 8] (by decide +kernel) (by decide +kernel)
set_option maxRecDepth 20000 in
theorem gJxc12de_init_da8c8_Jxa1e45_init_da8c8 : GoodIn wsJxc12de_init_da8c8 (wsJxa1e45_init_da8c8) := ggJxc12de_init_da8c8_Jxa1e45_init_da8c8
set_option maxRecDepth 20000 in
theorem ggJx4a65c_init_da8c8_Jxc12de_init_da8c8 : GoodIn wsJx4a65c_init_da8c8 wsJxc12de_init_da8c8 := goodIn_r _ [6, 7, 8, 9, 10, 11, 12, 13, 14, 15, 16, 17] (by decide +kernel) (by decide +kernel)
set_option maxRecDepth 20000 in
theorem gJx4a65c_init_da8c8_Jxc12de_init_da8c8 : GoodIn wsJx4a65c_init_da8c8 (wsJxc12de_init_da8c8) := ggJx4a65c_init_da8c8_Jxc12de_init_da8c8
set_option maxRecDepth 20000 in
theorem ggJx4a65c_grow_92f84_J8_newLength_cabcc : GoodIn wsJx4a65c_grow_92f84 wsJ8_newLength_cabcc := goodIn_r _ [11, 12, 4, 5, 6, 13, 14, 15, 10, 16] (by decide +kernel) (by decide +kernel)
set_option maxRecDepth 20000 in
theorem gJx4a65c_grow_92f84_J8_newLength_cabcc : GoodIn wsJx4a65c_grow_92f84 (va_wsS RJx4a65c 73 yJ8_newLength_cabcc wsJ8_newLength_cabcc) := goodIn_app (goodIn_of _ (by decide +kernel)) ggJx4a65c_grow_92f84_J8_newLength_cabcc
set_option maxRecDepth 20000 in
theorem ggJx4a65c_grow_92f84_J7_copyOf_1904c : GoodIn wsJx4a65c_grow_92f84 wsJ7_copyOf_1904c := goodIn_r _ [20, 21, 22, 23, 24, 25, 26, 19, 27, 28, 29, 30, 31, 5, 32, 33, 34, 35, 36] (by decide +kernel) (by decide +kernel)
set_option maxRecDepth 20000 in
theorem gJx4a65c_grow_92f84_J7_copyOf_1904c : GoodIn wsJx4a65c_grow_92f84 (va_wsS RJx4a65c 66 yJ7_copyOf_1904c wsJ7_copyOf_1904c) := goodIn_app (goodIn_of _ (by decide +kernel)) ggJx4a65c_grow_92f84_J7_copyOf_1904c
set_option maxRecDepth 20000 in
theorem ggJx4a65c_grow_d5877_Jx4a65c_grow_92f84 : GoodIn wsJx4a65c_grow_d5877 wsJx4a65c_grow_92f84 := goodIn_r _ [6, 7, 8, 9, 10, 11, 12, 13, 14, 15, 16, 17, 18, 19, 20, 21, 22, 23, 24, 25, 26, 27, 28, 29, 30, 31, 32, 33, 34, 35, 36, 37, 38, 39, 40, 41, 42, 43, 44, 45] (by decide +kernel) (by decide +kernel)
set_option maxRecDepth 20000 in
theorem gJx4a65c_grow_d5877_Jx4a65c_grow_92f84 : GoodIn wsJx4a65c_grow_d5877 (wsV RJx4a65c 69 RJx4a65c yJx4a65c_grow_92f84 wsJx4a65c_grow_92f84) := goodIn_app (goodIn_of _ (by decide +kernel)) ggJx4a65c_grow_d5877_Jx4a65c_grow_92f84
set_option maxRecDepth 20000 in
theorem ggJx4a65c_get_915e3_J15_checkIndex_7cf53 : GoodIn wsJx4a65c_get_915e3 wsJ15_checkIndex_7cf53 := goodIn_r _ [5, 6, 7, 8, 9] (by decide +kernel) (by decide +kernel)
set_option maxRecDepth 20000 in
theorem gJx4a65c_get_915e3_J15_checkIndex_7cf53 : GoodIn wsJx4a65c_get_915e3 (va_wsS RJx4a65c 118 yJ15_checkIndex_7cf53 wsJ15_checkIndex_7cf53) := goodIn_app (goodIn_of _ (by decide +kernel)) ggJx4a65c_get_915e3_J15_checkIndex_7cf53
set_option maxRecDepth 20000 in
theorem ggJx4a65c_get_915e3_Jx4a65c_elementData_915e3 : GoodIn wsJx4a65c_get_915e3 wsJx4a65c_elementData_915e3 := goodIn_r _ [14, 15, 16, 17, 18] (by decide +kernel) (by decide +kernel)
set_option maxRecDepth 20000 in
theorem gJx4a65c_get_915e3_Jx4a65c_elementData_915e3 : GoodIn wsJx4a65c_get_915e3 (wsV RJx4a65c 123 RJx4a65c yJx4a65c_elementData_915e3 wsJx4a65c_elementData_915e3) := goodIn_app (goodIn_of _ (by decide +kernel)) ggJx4a65c_get_915e3_Jx4a65c_elementData_915e3
set_option maxRecDepth 20000 in
theorem ggJx4a65c_add_72be8_Jx4a65c_grow_d5877 : GoodIn wsJx4a65c_add_72be8 wsJx4a65c_grow_d5877 := goodIn_r _ [6, 1, 7, 8, 9, 5, 10, 11, 12, 13, 14, 15, 16, 17, 18, 19, 20, 21, 22, 23, 24, 25, 26, 27, 28, 29, 30, 31, 32, 33, 34, 35, 36, 37, 38, 39, 40, 41, 42, 43, 44, 45, 46, 47, 48, 49] (by decide +kernel) (by decide +kernel)
set_option maxRecDepth 20000 in
theorem gJx4a65c_add_72be8_Jx4a65c_grow_d5877 : GoodIn wsJx4a65c_add_72be8 (wsV RJx4a65c 129 RJx4a65c yJx4a65c_grow_d5877 wsJx4a65c_grow_d5877) := goodIn_app (goodIn_of _ (by decide +kernel)) ggJx4a65c_add_72be8_Jx4a65c_grow_d5877
set_option maxRecDepth 20000 in
theorem ggJx4a65c_add_9ea2d_Jx4a65c_add_72be8 : GoodIn wsJx4a65c_add_9ea2d wsJx4a65c_add_72be8 := goodIn_r _ [9, 4, 10, 11, 12, 8, 13, 14, 15, 16, 17, 3, 18, 19, 20, 21, 22, 23, 24, 25, 26, 27, 28, 29, 30, 31, 32, 33, 34, 35, 36, 37, 38, 39, 40, 41, 42, 43, 44, 45, 46, 47, 48, 49, 50, 51, 52, 53, 54, 55] (by decide +kernel) (by decide +kernel)
set_option maxRecDepth 20000 in
theorem gJx4a65c_add_9ea2d_Jx4a65c_add_72be8 : GoodIn wsJx4a65c_add_9ea2d (wsV RJx4a65c 131 RJx4a65c yJx4a65c_add_72be8 wsJx4a65c_add_72be8) := goodIn_app (goodIn_of _ (by decide +kernel)) ggJx4a65c_add_9ea2d_Jx4a65c_add_72be8
set_option maxRecDepth 20000 in
theorem ggJ7_copyOf_1904c_J7_copyOf_6403c : GoodIn wsJ7_copyOf_1904c wsJ7_copyOf_6403c := goodIn_r _ [8, 9, 10, 11, 12, 13, 14, 15, 16, 17, 18] (by decide +kernel) (by decide +kernel)
set_option maxRecDepth 20000 in
theorem gJ7_copyOf_1904c_J7_copyOf_6403c : GoodIn wsJ7_copyOf_1904c (va_wsS RJ7 300 yJ7_copyOf_6403c wsJ7_copyOf_6403c) := goodIn_app (goodIn_of _ (by decide +kernel)) ggJ7_copyOf_1904c_J7_copyOf_6403c
set_option maxRecDepth 20000 in
theorem ggJ15_checkIndex_7cf53_J3_checkIndex_8e157 : GoodIn wsJ15_checkIndex_7cf53 wsJ3_checkIndex_8e157 := goodIn_r _ [4] (by decide +kernel) (by decide +kernel)
set_option maxRecDepth 20000 in
theorem gJ15_checkIndex_7cf53_J3_checkIndex_8e157 : GoodIn wsJ15_checkIndex_7cf53 (va_wsS RJ15 105 yJ3_checkIndex_8e157 wsJ3_checkIndex_8e157) := goodIn_app (goodIn_of _ (by decide +kernel)) ggJ15_checkIndex_7cf53_J3_checkIndex_8e157
set_option maxRecDepth 20000 in
theorem ggJ8_newLength_cabcc_J8_hugeLength_7cf53 : GoodIn wsJ8_newLength_cabcc wsJ8_hugeLength_7cf53 := goodIn_r _ [9, 5] (by decide +kernel) (by decide +kernel)
set_option maxRecDepth 20000 in
theorem gJ8_newLength_cabcc_J8_hugeLength_7cf53 : GoodIn wsJ8_newLength_cabcc (va_wsS RJ8 201 yJ8_hugeLength_7cf53 wsJ8_hugeLength_7cf53) := goodIn_app (goodIn_of _ (by decide +kernel)) ggJ8_newLength_cabcc_J8_hugeLength_7cf53
