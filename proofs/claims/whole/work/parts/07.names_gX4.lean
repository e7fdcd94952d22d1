set_option maxRecDepth 20000 in
theorem ggX4_init_X0_init : GoodIn wsX4_init wsX0_init := goodIn_r _ [28, 29, 2, 3, 30, 19, 20, 31, 32, 33, 34, 35, 36, 37, 38, 39, 40, 41, 42, 43, 86, 67, 68, 69] (by decide +kernel) (by decide +kernel)
set_option maxRecDepth 20000 in
theorem gX4_init_X0_init_n9 : GoodIn wsX4_init (wsX0_init) := ggX4_init_X0_init
set_option maxRecDepth 20000 in
theorem ggX4_init_X2_init : GoodIn wsX4_init wsX2_init := goodIn_r _ [45, 46, 2, 3, 47, 19, 20, 48, 49, 50, 35, 36, 37, 38, 39, 40, 41, 42, 43, 86, 81, 82] (by decide +kernel) (by decide +kernel)
set_option maxRecDepth 20000 in
theorem gX4_init_X2_init_n21 : GoodIn wsX4_init (wsX2_init) := ggX4_init_X2_init
set_option maxRecDepth 20000 in
theorem ggX4_init_Jx4a65c_init_da8c8 : GoodIn wsX4_init wsJx4a65c_init_da8c8 := goodIn_r _ [53, 54, 55, 56, 57, 58, 59, 60, 61, 62, 63, 64, 65, 2, 3, 83, 84, 85] (by decide +kernel) (by decide +kernel)
set_option maxRecDepth 20000 in
theorem gX4_init_Jx4a65c_init_da8c8 : GoodIn wsX4_init (wsJx4a65c_init_da8c8) := ggX4_init_Jx4a65c_init_da8c8
set_option maxRecDepth 20000 in
theorem ggX4_init_X1_init : GoodIn wsX4_init wsX1_init := goodIn_r _ [36, 37, 2, 3, 38, 39, 40, 41, 42, 43, 86] (by decide +kernel) (by decide +kernel)
set_option maxRecDepth 20000 in
theorem gX4_init_X1_init : GoodIn wsX4_init (wsX1_init) := ggX4_init_X1_init
set_option maxRecDepth 20000 in
theorem ggX4_step_X4_requireStep : GoodIn wsX4_step wsX4_requireStep := goodIn_ca (goodIn_r _ [7, 8, 9] (by decide +kernel) (by decide +kernel)) (goodIn_sub (fun _ h => List.mem_cons_of_mem _ (List.mem_append_right _ h)) (by decide +kernel))
set_option maxRecDepth 20000 in
theorem gX4_step_X4_requireStep : GoodIn wsX4_step (va_wsS RX4 61 yX4_requireStep wsX4_requireStep) := goodIn_app (goodIn_of _ (by decide +kernel)) ggX4_step_X4_requireStep
set_option maxRecDepth 20000 in
theorem ggX4_step_X0_isFull : GoodIn wsX4_step wsX0_isFull := goodIn_r _ [14, 15, 45, 46, 47] (by decide +kernel) (by decide +kernel)
set_option maxRecDepth 20000 in
theorem gX4_step_X0_isFull : GoodIn wsX4_step (wsV RX4 64 RX0 yX0_isFull wsX0_isFull) := goodIn_app (goodIn_of _ (by decide +kernel)) ggX4_step_X0_isFull
set_option maxRecDepth 20000 in
theorem ggX4_step_X0_add : GoodIn wsX4_step wsX0_add := goodIn_r _ [19, 15, 20, 21, 22, 23, 24, 25, 26, 27, 28, 6, 29, 45, 46, 47, 48] (by decide +kernel) (by decide +kernel)
set_option maxRecDepth 20000 in
theorem gX4_step_X0_add : GoodIn wsX4_step (wsV RX4 75 RX0 yX0_add wsX0_add) := goodIn_app (goodIn_of _ (by decide +kernel)) ggX4_step_X0_add
set_option maxRecDepth 20000 in
theorem ggX4_step_X0_length : GoodIn wsX4_step wsX0_length := goodIn_r _ [33, 15, 45, 46, 47] (by decide +kernel) (by decide +kernel)
set_option maxRecDepth 20000 in
theorem gX4_step_X0_length : GoodIn wsX4_step (wsV RX4 78 RX0 yX0_length wsX0_length) := goodIn_app (goodIn_of _ (by decide +kernel)) ggX4_step_X0_length
set_option maxRecDepth 20000 in
theorem ggX4_scrap_X0_length : GoodIn wsX4_scrap wsX0_length := goodIn_r _ [6, 7, 24, 25, 26] (by decide +kernel) (by decide +kernel)
set_option maxRecDepth 20000 in
theorem gX4_scrap_X0_length : GoodIn wsX4_scrap (wsV RX4 78 RX0 yX0_length wsX0_length) := goodIn_app (goodIn_of _ (by decide +kernel)) ggX4_scrap_X0_length
set_option maxRecDepth 20000 in
theorem ggX4_scrap_X0_empty : GoodIn wsX4_scrap wsX0_empty := goodIn_r _ [11, 7, 12, 24, 25, 26] (by decide +kernel) (by decide +kernel)
set_option maxRecDepth 20000 in
theorem gX4_scrap_X0_empty : GoodIn wsX4_scrap (wsV RX4 82 RX0 yX0_empty wsX0_empty) := goodIn_app (goodIn_of _ (by decide +kernel)) ggX4_scrap_X0_empty
set_option maxRecDepth 20000 in
theorem ggX4_store_X0_isRight : GoodIn wsX4_store wsX0_isRight := goodIn_r _ [9, 10, 11, 12, 13, 14, 15, 16, 17, 229, 230, 231, 232] (by decide +kernel) (by decide +kernel)
set_option maxRecDepth 20000 in
theorem gX4_store_X0_isRight : GoodIn wsX4_store (wsV RX4 85 RX0 yX0_isRight wsX0_isRight) := goodIn_app (goodIn_of _ (by decide +kernel)) ggX4_store_X0_isRight
set_option maxRecDepth 20000 in
theorem ggX4_store_X4_numberOf : GoodIn wsX4_store wsX4_numberOf := goodIn_r _ [22, 4, 23, 24, 25, 26, 27, 28, 29, 30, 31, 32, 33, 34, 35, 36, 37, 38, 39, 40, 41, 42, 43, 44, 45, 46, 47, 48, 49, 8, 50, 10, 11, 12, 13, 14, 15, 16, 17, 218, 219, 220, 221, 222, 223, 224, 225, 226, 227, 228, 233, 234, 235, 236, 237, 238, 239, 240, 241, 242, 243, 229, 230, 231, 232] (by decide +kernel) (by decide +kernel)
set_option maxRecDepth 20000 in
theorem gX4_store_X4_numberOf : GoodIn wsX4_store (wsV RX4 90 RX4 yX4_numberOf wsX4_numberOf) := goodIn_app (goodIn_of _ (by decide +kernel)) ggX4_store_X4_numberOf
set_option maxRecDepth 20000 in
theorem ggX4_store_Jx4a65c_size_8abf5 : GoodIn wsX4_store wsJx4a65c_size_8abf5 := goodIn_r _ [28, 29, 241, 242, 243] (by decide +kernel) (by decide +kernel)
set_option maxRecDepth 20000 in
theorem gX4_store_Jx4a65c_size_8abf5 : GoodIn wsX4_store (wsV RX4 94 RJx4a65c yJx4a65c_size_8abf5 wsJx4a65c_size_8abf5) := goodIn_app (goodIn_of _ (by decide +kernel)) ggX4_store_Jx4a65c_size_8abf5
set_option maxRecDepth 20000 in
theorem ggX4_store_X4_keep : GoodIn wsX4_store wsX4_keep := goodIn_r _ [54, 4, 55, 56, 57, 58, 24, 25, 26, 27, 28, 29, 59, 60, 61, 8, 62, 63, 64, 10, 65, 66, 67, 68, 69, 70, 71, 72, 15, 11, 73, 74, 75, 76, 77, 78, 79, 80, 81, 82, 17, 83, 84, 85, 86, 12, 13, 14, 16, 87, 88, 89, 90, 91, 92, 93, 94, 95, 21, 96, 97, 98, 99, 100, 101, 102, 103, 104, 105, 106, 107, 108, 109, 110, 111, 112, 113, 114, 23, 30, 31, 32, 33, 34, 35, 36, 37, 38, 39, 40, 41, 42, 43, 44, 45, 46, 115, 116, 117, 118, 119, 120, 121, 122, 123, 124, 125, 126, 127, 128, 129, 130, 131, 132, 133, 134, 135, 136, 137, 138, 139, 140, 141, 142, 143, 144, 145, 146, 147, 148, 149, 150, 151, 152, 153, 154, 155, 156, 157, 158, 159, 160, 161, 162, 163, 164, 165, 166, 167, 168, 169, 170, 171, 172, 173, 174, 175, 176, 177, 178, 179, 180, 181, 182, 183, 184, 185, 186, 187, 188, 189, 190, 191, 192, 193, 194, 195, 196, 197, 198, 199, 200, 201, 202, 203, 204, 205, 206, 207, 208, 209, 210, 211, 212, 213, 218, 219, 220, 221, 222, 223, 224, 225, 226, 227, 228, 233, 234, 235, 236, 237, 238, 239, 240, 229, 230, 231, 241, 242, 243, 232, 244, 245] (by decide +kernel) (by decide +kernel)
set_option maxRecDepth 20000 in
theorem gX4_store_X4_keep : GoodIn wsX4_store (wsV RX4 99 RX4 yX4_keep wsX4_keep) := goodIn_app (goodIn_of _ (by decide +kernel)) ggX4_store_X4_keep
set_option maxRecDepth 20000 in
theorem ggX4_store_X0_empty : GoodIn wsX4_store wsX0_empty := goodIn_r _ [217, 10, 73, 229, 230, 231] (by decide +kernel) (by decide +kernel)
set_option maxRecDepth 20000 in
theorem gX4_store_X0_empty : GoodIn wsX4_store (wsV RX4 82 RX0 yX0_empty wsX0_empty) := goodIn_app (goodIn_of _ (by decide +kernel)) ggX4_store_X0_empty
set_option maxRecDepth 20000 in
theorem ggX4_stored_Jx4a65c_size_8abf5 : GoodIn wsX4_stored wsJx4a65c_size_8abf5 := goodIn_r _ [6, 7, 19, 20, 21] (by decide +kernel) (by decide +kernel)
set_option maxRecDepth 20000 in
theorem gX4_stored_Jx4a65c_size_8abf5 : GoodIn wsX4_stored (wsV RX4 94 RJx4a65c yJx4a65c_size_8abf5 wsJx4a65c_size_8abf5) := goodIn_app (goodIn_of _ (by decide +kernel)) ggX4_stored_Jx4a65c_size_8abf5
set_option maxRecDepth 20000 in
theorem ggX4_bid_X4_strategyAt : GoodIn wsX4_bid wsX4_strategyAt := goodIn_ca (goodIn_r _ [5, 6, 7, 8, 9, 10, 11, 12, 13, 14, 15, 16, 17, 18, 19, 20, 21, 22, 23, 24, 25, 26, 27, 28, 29, 30, 31, 32, 50, 51, 52, 53, 54, 55, 56, 57, 58, 59, 60, 61, 62, 63] (by decide +kernel) (by decide +kernel)) (goodIn_sub (fun _ h => List.mem_cons_of_mem _ (List.mem_append_left _ (List.mem_append_right _ h))) (by decide +kernel))
set_option maxRecDepth 20000 in
theorem gX4_bid_X4_strategyAt : GoodIn wsX4_bid (wsV RX4 103 RX4 yX4_strategyAt wsX4_strategyAt) := goodIn_app (goodIn_of _ (by decide +kernel)) ggX4_bid_X4_strategyAt
set_option maxRecDepth 20000 in
theorem ggX4_bid_X4_requireValue : GoodIn wsX4_bid wsX4_requireValue := goodIn_ca (goodIn_r _ [35, 36, 37] (by decide +kernel) (by decide +kernel)) (goodIn_sub (fun _ h => List.mem_cons_of_mem _ (List.mem_append_right _ h)) (by decide +kernel))
set_option maxRecDepth 20000 in
theorem gX4_bid_X4_requireValue : GoodIn wsX4_bid (va_wsS RX4 107 yX4_requireValue wsX4_requireValue) := goodIn_app (goodIn_of _ (by decide +kernel)) ggX4_bid_X4_requireValue
set_option maxRecDepth 20000 in
theorem ggX4_bid_X3_bidFor : GoodIn wsX4_bid wsX3_bidFor := goodIn_r _ [42, 43, 44, 45, 46, 47, 48, 49, 64, 65, 66, 67, 68, 69, 70, 71, 72] (by decide +kernel) (by decide +kernel)
set_option maxRecDepth 20000 in
theorem gX4_bid_X3_bidFor : GoodIn wsX4_bid (wsV RX4 110 RX3 yX3_bidFor wsX3_bidFor) := goodIn_app (goodIn_of _ (by decide +kernel)) ggX4_bid_X3_bidFor
set_option maxRecDepth 20000 in
theorem ggX4_alike_X4_strategyAt : GoodIn wsX4_alike wsX4_strategyAt := goodIn_ca (goodIn_r _ [7, 8, 9, 1, 2, 10, 11, 12, 13, 14, 15, 16, 17, 18, 19, 20, 21, 22, 23, 24, 25, 26, 27, 28, 29, 30, 31, 32, 41, 42, 43, 44, 45, 46, 47, 48, 49, 50, 51, 52, 53, 54] (by decide +kernel) (by decide +kernel)) (goodIn_sub (fun _ h => List.mem_cons_of_mem _ (List.mem_append_right _ h)) (by decide +kernel))
set_option maxRecDepth 20000 in
theorem gX4_alike_X4_strategyAt : GoodIn wsX4_alike (wsV RX4 103 RX4 yX4_strategyAt wsX4_strategyAt) := goodIn_app (goodIn_of _ (by decide +kernel)) ggX4_alike_X4_strategyAt
set_option maxRecDepth 20000 in
theorem ggX4_alike_Jx4a65c_size_8abf5 : GoodIn wsX4_alike wsJx4a65c_size_8abf5 := goodIn_r _ [14, 15, 52, 53, 54] (by decide +kernel) (by decide +kernel)
set_option maxRecDepth 20000 in
theorem gX4_alike_Jx4a65c_size_8abf5 : GoodIn wsX4_alike (wsV RX4 94 RJx4a65c yJx4a65c_size_8abf5 wsJx4a65c_size_8abf5) := goodIn_app (goodIn_of _ (by decide +kernel)) ggX4_alike_Jx4a65c_size_8abf5
set_option maxRecDepth 20000 in
theorem ggX4_alike_Jx4a65c_get_915e3 : GoodIn wsX4_alike wsJx4a65c_get_915e3 := goodIn_r _ [19, 15, 20, 21, 22, 23, 24, 25, 26, 27, 28, 29, 30, 13, 31, 32, 52, 53, 54] (by decide +kernel) (by decide +kernel)
set_option maxRecDepth 20000 in
theorem gX4_alike_Jx4a65c_get_915e3 : GoodIn wsX4_alike (wsV RX4 119 RJx4a65c yJx4a65c_get_915e3 wsJx4a65c_get_915e3) := goodIn_app (goodIn_of _ (by decide +kernel)) ggX4_alike_Jx4a65c_get_915e3
set_option maxRecDepth 20000 in
theorem ggX4_parent_X4_strategyAt : GoodIn wsX4_parent wsX4_strategyAt := goodIn_ca (goodIn_r _ [5, 6, 7, 8, 9, 10, 11, 12, 13, 14, 15, 16, 17, 18, 19, 20, 21, 22, 23, 24, 25, 26, 27, 28, 29, 30, 31, 32, 41, 42, 43, 44, 45, 46, 47, 48, 49, 50, 51, 52, 53, 54] (by decide +kernel) (by decide +kernel)) (goodIn_sub (fun _ h => List.mem_cons_of_mem _ (List.mem_append_right _ h)) (by decide +kernel))
set_option maxRecDepth 20000 in
theorem gX4_parent_X4_strategyAt : GoodIn wsX4_parent (wsV RX4 103 RX4 yX4_strategyAt wsX4_strategyAt) := goodIn_app (goodIn_of _ (by decide +kernel)) ggX4_parent_X4_strategyAt
set_option maxRecDepth 20000 in
theorem ggX4_join_X4_strategyAt : GoodIn wsX4_join wsX4_strategyAt := goodIn_ca (goodIn_r _ [8, 9, 10, 11, 12, 13, 14, 15, 16, 17, 18, 19, 20, 21, 22, 23, 24, 25, 26, 27, 28, 29, 30, 31, 32, 33, 34, 35, 54, 55, 56, 57, 58, 59, 60, 61, 62, 63, 64, 65, 66, 67] (by decide +kernel) (by decide +kernel)) (goodIn_sub (fun _ h => List.mem_cons_of_mem _ (List.mem_append_right _ h)) (by decide +kernel))
set_option maxRecDepth 20000 in
theorem gX4_join_X4_strategyAt : GoodIn wsX4_join (wsV RX4 103 RX4 yX4_strategyAt wsX4_strategyAt) := goodIn_app (goodIn_of _ (by decide +kernel)) ggX4_join_X4_strategyAt
set_option maxRecDepth 20000 in
theorem ggX4_join_X0_hasAnyOf : GoodIn wsX4_join wsX0_hasAnyOf := goodIn_r _ [40, 41, 68, 69, 70] (by decide +kernel) (by decide +kernel)
set_option maxRecDepth 20000 in
theorem gX4_join_X0_hasAnyOf : GoodIn wsX4_join (wsV RX4 138 RX0 yX0_hasAnyOf wsX0_hasAnyOf) := goodIn_app (goodIn_of _ (by decide +kernel)) ggX4_join_X0_hasAnyOf
set_option maxRecDepth 20000 in
theorem ggX4_join_X4_poolSize : GoodIn wsX4_join wsX4_poolSize := goodIn_r _ [45, 11, 12, 13, 14, 15, 16, 17, 18, 19, 20, 21, 22, 23, 24, 25, 26, 27, 28, 29, 30, 31, 32, 33, 34, 35, 54, 55, 56, 57, 58, 59, 60, 61, 62, 63, 64, 46, 47, 48, 49, 50, 51, 52, 53, 65, 66, 67] (by decide +kernel) (by decide +kernel)
set_option maxRecDepth 20000 in
theorem gX4_join_X4_poolSize : GoodIn wsX4_join (wsV RX4 144 RX4 yX4_poolSize wsX4_poolSize) := goodIn_app (goodIn_of _ (by decide +kernel)) ggX4_join_X4_poolSize
set_option maxRecDepth 20000 in
theorem ggX4_leave_X4_strategyAt : GoodIn wsX4_leave wsX4_strategyAt := goodIn_ca (goodIn_r _ [5, 6, 7, 8, 9, 10, 11, 12, 13, 14, 15, 16, 17, 18, 19, 20, 21, 22, 23, 24, 25, 26, 27, 28, 29, 30, 31, 32, 50, 51, 52, 53, 54, 55, 56, 57, 58, 59, 60, 61, 62, 63] (by decide +kernel) (by decide +kernel)) (goodIn_sub (fun _ h => List.mem_cons_of_mem _ (List.mem_append_left _ (List.mem_append_right _ h))) (by decide +kernel))
set_option maxRecDepth 20000 in
theorem gX4_leave_X4_strategyAt : GoodIn wsX4_leave (wsV RX4 103 RX4 yX4_strategyAt wsX4_strategyAt) := goodIn_app (goodIn_of _ (by decide +kernel)) ggX4_leave_X4_strategyAt
set_option maxRecDepth 20000 in
theorem ggX4_leave_X4_requireInPool : GoodIn wsX4_leave wsX4_requireInPool := goodIn_ca (goodIn_r _ [35, 36, 37, 42, 43, 44, 45, 46, 47, 48, 49] (by decide +kernel) (by decide +kernel)) (goodIn_sub (fun _ h => List.mem_cons_of_mem _ (List.mem_append_right _ h)) (by decide +kernel))
set_option maxRecDepth 20000 in
theorem gX4_leave_X4_requireInPool : GoodIn wsX4_leave (va_wsS RX4 149 yX4_requireInPool wsX4_requireInPool) := goodIn_app (goodIn_of _ (by decide +kernel)) ggX4_leave_X4_requireInPool
set_option maxRecDepth 20000 in
theorem ggX4_leave_X4_poolSize : GoodIn wsX4_leave wsX4_poolSize := goodIn_r _ [41, 8, 9, 10, 11, 12, 13, 14, 15, 16, 17, 18, 19, 20, 21, 22, 23, 24, 25, 26, 27, 28, 29, 30, 31, 32, 50, 51, 52, 53, 54, 55, 56, 57, 58, 59, 60, 42, 43, 44, 45, 46, 47, 48, 49, 61, 62, 63] (by decide +kernel) (by decide +kernel)
set_option maxRecDepth 20000 in
theorem gX4_leave_X4_poolSize : GoodIn wsX4_leave (wsV RX4 144 RX4 yX4_poolSize wsX4_poolSize) := goodIn_app (goodIn_of _ (by decide +kernel)) ggX4_leave_X4_poolSize
set_option maxRecDepth 20000 in
theorem ggX4_isIn_X4_strategyAt : GoodIn wsX4_isIn wsX4_strategyAt := goodIn_ca (goodIn_r _ [5, 6, 7, 8, 9, 10, 11, 12, 13, 14, 15, 16, 17, 18, 19, 20, 21, 22, 23, 24, 25, 26, 27, 28, 29, 30, 31, 32, 41, 42, 43, 44, 45, 46, 47, 48, 49, 50, 51, 52, 53, 54] (by decide +kernel) (by decide +kernel)) (goodIn_sub (fun _ h => List.mem_cons_of_mem _ (List.mem_append_right _ h)) (by decide +kernel))
set_option maxRecDepth 20000 in
theorem gX4_isIn_X4_strategyAt : GoodIn wsX4_isIn (wsV RX4 103 RX4 yX4_strategyAt wsX4_strategyAt) := goodIn_app (goodIn_of _ (by decide +kernel)) ggX4_isIn_X4_strategyAt
set_option maxRecDepth 20000 in
theorem ggX4_forbid_X4_requireStep : GoodIn wsX4_forbid wsX4_requireStep := goodIn_ca (goodIn_r _ [7, 8, 9] (by decide +kernel) (by decide +kernel)) (goodIn_sub (fun _ h => List.mem_cons_of_mem _ (List.mem_append_right _ h)) (by decide +kernel))
set_option maxRecDepth 20000 in
theorem gX4_forbid_X4_requireStep : GoodIn wsX4_forbid (va_wsS RX4 61 yX4_requireStep wsX4_requireStep) := goodIn_app (goodIn_of _ (by decide +kernel)) ggX4_forbid_X4_requireStep
set_option maxRecDepth 20000 in
theorem ggX4_forbid_X4_bitOf : GoodIn wsX4_forbid wsX4_bitOf := goodIn_r _ [12] (by decide +kernel) (by decide +kernel)
set_option maxRecDepth 20000 in
theorem gX4_forbid_X4_bitOf : GoodIn wsX4_forbid (va_wsS RX4 153 yX4_bitOf wsX4_bitOf) := goodIn_app (goodIn_of _ (by decide +kernel)) ggX4_forbid_X4_bitOf
set_option maxRecDepth 20000 in
theorem ggX4_forbid_Jx4a65c_size_8abf5 : GoodIn wsX4_forbid wsJx4a65c_size_8abf5 := goodIn_r _ [17, 18, 55, 56, 57] (by decide +kernel) (by decide +kernel)
set_option maxRecDepth 20000 in
theorem gX4_forbid_Jx4a65c_size_8abf5 : GoodIn wsX4_forbid (wsV RX4 94 RJx4a65c yJx4a65c_size_8abf5 wsJx4a65c_size_8abf5) := goodIn_app (goodIn_of _ (by decide +kernel)) ggX4_forbid_Jx4a65c_size_8abf5
set_option maxRecDepth 20000 in
theorem ggX4_forbid_Jx4a65c_get_915e3 : GoodIn wsX4_forbid wsJx4a65c_get_915e3 := goodIn_r _ [22, 18, 23, 24, 25, 26, 27, 28, 29, 30, 31, 32, 33, 16, 34, 35, 55, 56, 57] (by decide +kernel) (by decide +kernel)
set_option maxRecDepth 20000 in
theorem gX4_forbid_Jx4a65c_get_915e3 : GoodIn wsX4_forbid (wsV RX4 119 RJx4a65c yJx4a65c_get_915e3 wsJx4a65c_get_915e3) := goodIn_app (goodIn_of _ (by decide +kernel)) ggX4_forbid_Jx4a65c_get_915e3
set_option maxRecDepth 20000 in
theorem ggX4_allow_X4_requireStep : GoodIn wsX4_allow wsX4_requireStep := goodIn_ca (goodIn_r _ [5, 6, 7] (by decide +kernel) (by decide +kernel)) (goodIn_sub (fun _ h => List.mem_cons_of_mem _ (List.mem_append_right _ h)) (by decide +kernel))
set_option maxRecDepth 20000 in
theorem gX4_allow_X4_requireStep : GoodIn wsX4_allow (va_wsS RX4 61 yX4_requireStep wsX4_requireStep) := goodIn_app (goodIn_of _ (by decide +kernel)) ggX4_allow_X4_requireStep
set_option maxRecDepth 20000 in
theorem ggX4_allow_X4_bitOf : GoodIn wsX4_allow wsX4_bitOf := goodIn_r _ [10] (by decide +kernel) (by decide +kernel)
set_option maxRecDepth 20000 in
theorem gX4_allow_X4_bitOf : GoodIn wsX4_allow (va_wsS RX4 153 yX4_bitOf wsX4_bitOf) := goodIn_app (goodIn_of _ (by decide +kernel)) ggX4_allow_X4_bitOf
set_option maxRecDepth 20000 in
theorem ggX4_tell_X4_requireValue : GoodIn wsX4_tell wsX4_requireValue := goodIn_ca (goodIn_r _ [9, 10, 11] (by decide +kernel) (by decide +kernel)) (goodIn_sub (fun _ h => List.mem_cons_of_mem _ (List.mem_append_right _ h)) (by decide +kernel))
set_option maxRecDepth 20000 in
theorem gX4_tell_X4_requireValue : GoodIn wsX4_tell (va_wsS RX4 107 yX4_requireValue wsX4_requireValue) := goodIn_app (goodIn_of _ (by decide +kernel)) ggX4_tell_X4_requireValue
set_option maxRecDepth 20000 in
theorem ggX4_tell_X1_put : GoodIn wsX4_tell wsX1_put := goodIn_r _ [16, 17, 29] (by decide +kernel) (by decide +kernel)
set_option maxRecDepth 20000 in
theorem gX4_tell_X1_put : GoodIn wsX4_tell (wsV RX4 161 RX1 yX1_put wsX1_put) := goodIn_app (goodIn_of _ (by decide +kernel)) ggX4_tell_X1_put
set_option maxRecDepth 20000 in
theorem ggX4_profit_X4_strategyAt : GoodIn wsX4_profit wsX4_strategyAt := goodIn_ca (goodIn_r _ [7, 8, 9, 10, 11, 12, 13, 14, 15, 16, 17, 18, 19, 20, 21, 22, 23, 24, 25, 26, 27, 28, 29, 30, 31, 32, 33, 34, 65, 66, 67, 68, 69, 70, 71, 72, 73, 74, 75, 76, 77, 78] (by decide +kernel) (by decide +kernel)) (goodIn_sub (fun _ h => List.mem_cons_of_mem _ (List.mem_append_right _ h)) (by decide +kernel))
set_option maxRecDepth 20000 in
theorem gX4_profit_X4_strategyAt : GoodIn wsX4_profit (wsV RX4 103 RX4 yX4_strategyAt wsX4_strategyAt) := goodIn_app (goodIn_of _ (by decide +kernel)) ggX4_profit_X4_strategyAt
set_option maxRecDepth 20000 in
theorem ggX4_profit_X4_requireAuction : GoodIn wsX4_profit wsX4_requireAuction := goodIn_ca (goodIn_r _ [37, 1, 2] (by decide +kernel) (by decide +kernel)) (goodIn_sub (fun _ h => List.mem_cons_of_mem _ (List.mem_append_left _ (List.mem_append_right _ h))) (by decide +kernel))
set_option maxRecDepth 20000 in
theorem gX4_profit_X4_requireAuction : GoodIn wsX4_profit (va_wsS RX4 170 yX4_requireAuction wsX4_requireAuction) := goodIn_app (goodIn_of _ (by decide +kernel)) ggX4_profit_X4_requireAuction
set_option maxRecDepth 20000 in
theorem ggX4_profit_X4_requireValue : GoodIn wsX4_profit wsX4_requireValue := goodIn_ca (goodIn_r _ [40, 1, 2] (by decide +kernel) (by decide +kernel)) (goodIn_sub (fun _ h => List.mem_cons_of_mem _ (List.mem_append_left _ (List.mem_append_right _ h))) (by decide +kernel))
set_option maxRecDepth 20000 in
theorem gX4_profit_X4_requireValue : GoodIn wsX4_profit (va_wsS RX4 107 yX4_requireValue wsX4_requireValue) := goodIn_app (goodIn_of _ (by decide +kernel)) ggX4_profit_X4_requireValue
set_option maxRecDepth 20000 in
theorem ggX4_profit_X4_profitAgainst : GoodIn wsX4_profit wsX4_profitAgainst := goodIn_r _ [43, 44, 45, 46, 47, 48, 49, 50, 51, 52, 53, 54, 55, 56, 57, 6, 58, 59, 60, 61, 62, 63, 64, 79, 80, 81, 82, 83, 84, 85, 86, 87] (by decide +kernel) (by decide +kernel)
set_option maxRecDepth 20000 in
theorem gX4_profit_X4_profitAgainst : GoodIn wsX4_profit (va_wsS RX4 173 yX4_profitAgainst wsX4_profitAgainst) := goodIn_app (goodIn_of _ (by decide +kernel)) ggX4_profit_X4_profitAgainst
set_option maxRecDepth 20000 in
theorem ggX4_worth_X4_strategyAt : GoodIn wsX4_worth wsX4_strategyAt := goodIn_ca (goodIn_r _ [5, 6, 7, 8, 9, 10, 11, 12, 13, 14, 15, 16, 17, 18, 19, 20, 21, 22, 23, 24, 25, 26, 27, 28, 29, 30, 31, 32, 79, 80, 81, 82, 83, 84, 85, 86, 87, 88, 89, 90, 91, 92] (by decide +kernel) (by decide +kernel)) (goodIn_sub (fun _ h => List.mem_cons_of_mem _ (List.mem_append_left _ (List.mem_append_left _ (List.mem_append_right _ h)))) (by decide +kernel))
set_option maxRecDepth 20000 in
theorem gX4_worth_X4_strategyAt : GoodIn wsX4_worth (wsV RX4 103 RX4 yX4_strategyAt wsX4_strategyAt) := goodIn_app (goodIn_of _ (by decide +kernel)) ggX4_worth_X4_strategyAt
set_option maxRecDepth 20000 in
theorem ggX4_worth_X4_requireAuction : GoodIn wsX4_worth wsX4_requireAuction := goodIn_ca (goodIn_r _ [35, 36, 37] (by decide +kernel) (by decide +kernel)) (goodIn_sub (fun _ h => List.mem_cons_of_mem _ (List.mem_append_left _ (List.mem_append_right _ h))) (by decide +kernel))
set_option maxRecDepth 20000 in
theorem gX4_worth_X4_requireAuction : GoodIn wsX4_worth (va_wsS RX4 170 yX4_requireAuction wsX4_requireAuction) := goodIn_app (goodIn_of _ (by decide +kernel)) ggX4_worth_X4_requireAuction
set_option maxRecDepth 20000 in
theorem ggX4_worth_X4_requireInPool : GoodIn wsX4_worth wsX4_requireInPool := goodIn_ca (goodIn_r _ [40, 41, 42, 93, 94, 95, 96, 97, 98, 99, 100] (by decide +kernel) (by decide +kernel)) (goodIn_sub (fun _ h => List.mem_cons_of_mem _ (List.mem_append_right _ h)) (by decide +kernel))
set_option maxRecDepth 20000 in
theorem gX4_worth_X4_requireInPool : GoodIn wsX4_worth (va_wsS RX4 149 yX4_requireInPool wsX4_requireInPool) := goodIn_app (goodIn_of _ (by decide +kernel)) ggX4_worth_X4_requireInPool
set_option maxRecDepth 20000 in
theorem ggX4_worth_X4_worthByStrategies : GoodIn wsX4_worth wsX4_worthByStrategies := goodIn_r _ [46, 8, 9, 10, 11, 12, 13, 14, 15, 16, 17, 18, 19, 20, 21, 22, 23, 24, 25, 26, 27, 28, 29, 30, 31, 32, 47, 48, 49, 4, 50, 51, 52, 53, 54, 55, 56, 57, 58, 59, 60, 61, 62, 63, 64, 65, 66, 67, 68, 69, 70, 71, 72, 73, 74, 75, 76, 77, 78, 79, 80, 81, 82, 83, 84, 85, 86, 87, 88, 89, 93, 94, 95, 96, 97, 98, 99, 100, 90, 91, 92, 101] (by decide +kernel) (by decide +kernel)
set_option maxRecDepth 20000 in
theorem gX4_worth_X4_worthByStrategies : GoodIn wsX4_worth (wsV RX4 177 RX4 yX4_worthByStrategies wsX4_worthByStrategies) := goodIn_app (goodIn_of _ (by decide +kernel)) ggX4_worth_X4_worthByStrategies
set_option maxRecDepth 20000 in
theorem ggX4_worthByValues_X4_strategyAt : GoodIn wsX4_worthByValues wsX4_strategyAt := goodIn_ca (goodIn_r _ [10, 11, 12, 13, 14, 15, 16, 17, 18, 19, 20, 21, 22, 23, 24, 25, 26, 27, 28, 29, 30, 31, 32, 33, 34, 35, 36, 37, 82, 83, 84, 85, 86, 87, 88, 89, 90, 91, 92, 93, 94, 95] (by decide +kernel) (by decide +kernel)) (goodIn_sub (fun _ h => List.mem_cons_of_mem _ (List.mem_append_left _ (List.mem_append_left _ (List.mem_append_right _ h)))) (by decide +kernel))
set_option maxRecDepth 20000 in
theorem gX4_worthByValues_X4_strategyAt : GoodIn wsX4_worthByValues (wsV RX4 103 RX4 yX4_strategyAt wsX4_strategyAt) := goodIn_app (goodIn_of _ (by decide +kernel)) ggX4_worthByValues_X4_strategyAt
set_option maxRecDepth 20000 in
theorem ggX4_worthByValues_X4_requireAuction : GoodIn wsX4_worthByValues wsX4_requireAuction := goodIn_ca (goodIn_r _ [40, 41, 42] (by decide +kernel) (by decide +kernel)) (goodIn_sub (fun _ h => List.mem_cons_of_mem _ (List.mem_append_left _ (List.mem_append_right _ h))) (by decide +kernel))
set_option maxRecDepth 20000 in
theorem gX4_worthByValues_X4_requireAuction : GoodIn wsX4_worthByValues (va_wsS RX4 170 yX4_requireAuction wsX4_requireAuction) := goodIn_app (goodIn_of _ (by decide +kernel)) ggX4_worthByValues_X4_requireAuction
set_option maxRecDepth 20000 in
theorem ggX4_worthByValues_X4_requireInPool : GoodIn wsX4_worthByValues wsX4_requireInPool := goodIn_ca (goodIn_r _ [45, 46, 47, 96, 97, 98, 99, 100, 101, 102, 103] (by decide +kernel) (by decide +kernel)) (goodIn_sub (fun _ h => List.mem_cons_of_mem _ (List.mem_append_right _ h)) (by decide +kernel))
set_option maxRecDepth 20000 in
theorem gX4_worthByValues_X4_requireInPool : GoodIn wsX4_worthByValues (va_wsS RX4 149 yX4_requireInPool wsX4_requireInPool) := goodIn_app (goodIn_of _ (by decide +kernel)) ggX4_worthByValues_X4_requireInPool
set_option maxRecDepth 20000 in
theorem ggX4_worthByValues_X1_at : GoodIn wsX4_worthByValues wsX1_at := goodIn_r _ [52, 53, 104] (by decide +kernel) (by decide +kernel)
set_option maxRecDepth 20000 in
theorem gX4_worthByValues_X1_at : GoodIn wsX4_worthByValues (wsV RX4 181 RX1 yX1_at wsX1_at) := goodIn_app (goodIn_of _ (by decide +kernel)) ggX4_worthByValues_X1_at
set_option maxRecDepth 20000 in
theorem ggX4_worthByValues_X4_layBids : GoodIn wsX4_worthByValues wsX4_layBids := goodIn_r _ [57, 13, 14, 15, 16, 17, 18, 19, 20, 21, 22, 23, 24, 25, 26, 27, 28, 29, 30, 31, 32, 33, 34, 35, 36, 37, 58, 59, 60, 61, 62, 63, 64, 49, 50, 51, 52, 53, 65, 66, 67, 68, 82, 83, 84, 85, 86, 87, 88, 89, 90, 91, 92, 96, 97, 98, 99, 100, 101, 102, 103, 93, 94, 95, 104] (by decide +kernel) (by decide +kernel)
set_option maxRecDepth 20000 in
theorem gX4_worthByValues_X4_layBids : GoodIn wsX4_worthByValues (wsV RX4 184 RX4 yX4_layBids wsX4_layBids) := goodIn_app (goodIn_of _ (by decide +kernel)) ggX4_worthByValues_X4_layBids
set_option maxRecDepth 20000 in
theorem ggX4_worthByValues_X4_profitInRows : GoodIn wsX4_worthByValues wsX4_profitInRows := goodIn_r _ [72, 13, 14, 48, 49, 50, 51, 52, 53, 15, 16, 17, 18, 19, 20, 21, 22, 23, 24, 25, 26, 27, 28, 29, 30, 31, 32, 33, 34, 35, 36, 37, 73, 74, 9, 75, 76, 77, 78, 79, 80, 81, 82, 83, 84, 85, 86, 87, 88, 89, 90, 91, 92, 96, 97, 98, 99, 100, 101, 102, 103, 104, 93, 94, 95] (by decide +kernel) (by decide +kernel)
set_option maxRecDepth 20000 in
theorem gX4_worthByValues_X4_profitInRows : GoodIn wsX4_worthByValues (wsV RX4 188 RX4 yX4_profitInRows wsX4_profitInRows) := goodIn_app (goodIn_of _ (by decide +kernel)) ggX4_worthByValues_X4_profitInRows
set_option maxRecDepth 20000 in
theorem ggX4_best_X4_requireAuction : GoodIn wsX4_best wsX4_requireAuction := goodIn_ca (goodIn_r _ [4, 5, 6] (by decide +kernel) (by decide +kernel)) (goodIn_sub (fun _ h => List.mem_cons_of_mem _ (List.mem_append_right _ h)) (by decide +kernel))
set_option maxRecDepth 20000 in
theorem gX4_best_X4_requireAuction : GoodIn wsX4_best (va_wsS RX4 170 yX4_requireAuction wsX4_requireAuction) := goodIn_app (goodIn_of _ (by decide +kernel)) ggX4_best_X4_requireAuction
set_option maxRecDepth 20000 in
theorem ggX4_best_X4_layWorths : GoodIn wsX4_best wsX4_layWorths := goodIn_r _ [10, 11, 12, 13, 14, 15, 16, 17, 18, 19, 20, 21, 22, 23, 24, 25, 26, 27, 28, 29, 30, 31, 32, 33, 34, 35, 36, 37, 38, 39, 3, 40, 41, 42, 43, 44, 45, 46, 47, 48, 49, 50, 51, 52, 53, 54, 55, 56, 57, 58, 59, 60, 61, 62, 63, 64, 65, 66, 67, 68, 69, 70, 71, 72, 73, 74, 75, 76, 81, 82, 83, 84, 85, 86, 87, 88, 89, 90, 91, 92, 93, 94, 95, 96, 97, 98, 99, 100, 101, 102, 103] (by decide +kernel) (by decide +kernel)
set_option maxRecDepth 20000 in
theorem gX4_best_X4_layWorths : GoodIn wsX4_best (wsV RX4 192 RX4 yX4_layWorths wsX4_layWorths) := goodIn_app (goodIn_of _ (by decide +kernel)) ggX4_best_X4_layWorths
set_option maxRecDepth 20000 in
theorem ggX4_best_X4_strongestBut : GoodIn wsX4_best wsX4_strongestBut := goodIn_r _ [80, 11, 12, 13, 14, 15, 16, 17, 18, 19, 20, 21, 22, 23, 24, 25, 26, 27, 28, 29, 30, 31, 32, 33, 34, 35, 36, 48, 49, 50, 51, 52, 53, 81, 82, 83, 84, 85, 86, 87, 88, 89, 90, 91, 92, 93, 94, 95, 96, 97, 98, 99, 100, 101, 102, 103] (by decide +kernel) (by decide +kernel)
set_option maxRecDepth 20000 in
theorem gX4_best_X4_strongestBut : GoodIn wsX4_best (wsV RX4 195 RX4 yX4_strongestBut wsX4_strongestBut) := goodIn_app (goodIn_of _ (by decide +kernel)) ggX4_best_X4_strongestBut
set_option maxRecDepth 20000 in
theorem ggX4_evolve_X4_requireAuction : GoodIn wsX4_evolve wsX4_requireAuction := goodIn_ca (goodIn_r _ [7, 8, 9] (by decide +kernel) (by decide +kernel)) (goodIn_sub (fun _ h => List.mem_cons_of_mem _ (List.mem_append_left _ (List.mem_append_right _ h))) (by decide +kernel))
set_option maxRecDepth 20000 in
theorem gX4_evolve_X4_requireAuction : GoodIn wsX4_evolve (va_wsS RX4 170 yX4_requireAuction wsX4_requireAuction) := goodIn_app (goodIn_of _ (by decide +kernel)) ggX4_evolve_X4_requireAuction
set_option maxRecDepth 20000 in
theorem ggX4_evolve_X4_poolSize : GoodIn wsX4_evolve wsX4_poolSize := goodIn_r _ [13, 3, 14, 15, 16, 17, 18, 19, 20, 21, 22, 23, 24, 25, 26, 27, 28, 29, 30, 31, 32, 33, 34, 35, 36, 37, 293, 294, 295, 296, 297, 298, 299, 300, 301, 302, 303, 304, 305, 306, 307, 308, 309, 310, 311, 312, 313, 314] (by decide +kernel) (by decide +kernel)
set_option maxRecDepth 20000 in
theorem gX4_evolve_X4_poolSize : GoodIn wsX4_evolve (wsV RX4 144 RX4 yX4_poolSize wsX4_poolSize) := goodIn_app (goodIn_of _ (by decide +kernel)) ggX4_evolve_X4_poolSize
set_option maxRecDepth 20000 in
theorem ggX4_evolve_Jx4a65c_size_8abf5 : GoodIn wsX4_evolve wsJx4a65c_size_8abf5 := goodIn_r _ [19, 20, 312, 313, 314] (by decide +kernel) (by decide +kernel)
set_option maxRecDepth 20000 in
theorem gX4_evolve_Jx4a65c_size_8abf5 : GoodIn wsX4_evolve (wsV RX4 94 RJx4a65c yJx4a65c_size_8abf5 wsJx4a65c_size_8abf5) := goodIn_app (goodIn_of _ (by decide +kernel)) ggX4_evolve_Jx4a65c_size_8abf5
set_option maxRecDepth 20000 in
theorem ggX4_evolve_X4_layWorths : GoodIn wsX4_evolve wsX4_layWorths := goodIn_r _ [41, 3, 14, 42, 15, 16, 17, 18, 19, 20, 21, 22, 23, 24, 25, 26, 27, 28, 29, 30, 31, 32, 33, 34, 35, 36, 37, 43, 44, 45, 6, 46, 47, 48, 49, 50, 51, 52, 53, 54, 55, 56, 57, 58, 59, 60, 61, 62, 63, 64, 65, 66, 67, 68, 69, 70, 71, 72, 73, 74, 75, 76, 77, 78, 79, 80, 81, 82, 293, 294, 295, 296, 297, 298, 299, 300, 301, 302, 303, 304, 305, 306, 307, 308, 309, 310, 311, 312, 313, 314, 315] (by decide +kernel) (by decide +kernel)
set_option maxRecDepth 20000 in
theorem gX4_evolve_X4_layWorths : GoodIn wsX4_evolve (wsV RX4 192 RX4 yX4_layWorths wsX4_layWorths) := goodIn_app (goodIn_of _ (by decide +kernel)) ggX4_evolve_X4_layWorths
set_option maxRecDepth 20000 in
theorem ggX4_evolve_X4_weakest : GoodIn wsX4_evolve wsX4_weakest := goodIn_r _ [86, 3, 14, 42, 15, 16, 17, 18, 19, 20, 21, 22, 23, 24, 25, 26, 27, 28, 29, 30, 31, 32, 33, 34, 35, 36, 37, 54, 55, 56, 57, 58, 59, 293, 294, 295, 296, 297, 298, 299, 300, 301, 302, 303, 304, 305, 306, 307, 308, 309, 310, 311, 312, 313, 314, 315] (by decide +kernel) (by decide +kernel)
set_option maxRecDepth 20000 in
theorem gX4_evolve_X4_weakest : GoodIn wsX4_evolve (wsV RX4 200 RX4 yX4_weakest wsX4_weakest) := goodIn_app (goodIn_of _ (by decide +kernel)) ggX4_evolve_X4_weakest
set_option maxRecDepth 20000 in
theorem ggX4_evolve_X4_strategyAt : GoodIn wsX4_evolve wsX4_strategyAt := goodIn_ca (goodIn_r _ [90, 91, 92, 3, 14, 15, 16, 17, 18, 19, 20, 21, 22, 23, 24, 25, 26, 27, 28, 29, 30, 31, 32, 33, 34, 35, 36, 37, 293, 294, 295, 296, 297, 298, 299, 300, 301, 302, 303, 312, 313, 314] (by decide +kernel) (by decide +kernel)) (goodIn_sub (fun _ h => List.mem_cons_of_mem _ (List.mem_append_right _ h)) (by decide +kernel))
set_option maxRecDepth 20000 in
theorem gX4_evolve_X4_strategyAt : GoodIn wsX4_evolve (wsV RX4 103 RX4 yX4_strategyAt wsX4_strategyAt) := goodIn_app (goodIn_of _ (by decide +kernel)) ggX4_evolve_X4_strategyAt
set_option maxRecDepth 20000 in
theorem ggX4_evolve_X4_strongestBut : GoodIn wsX4_evolve wsX4_strongestBut := goodIn_r _ [96, 3, 14, 42, 15, 16, 17, 18, 19, 20, 21, 22, 23, 24, 25, 26, 27, 28, 29, 30, 31, 32, 33, 34, 35, 36, 37, 54, 55, 56, 57, 58, 59, 293, 294, 295, 296, 297, 298, 299, 300, 301, 302, 303, 304, 305, 306, 307, 308, 309, 310, 311, 312, 313, 314, 315] (by decide +kernel) (by decide +kernel)
set_option maxRecDepth 20000 in
theorem gX4_evolve_X4_strongestBut : GoodIn wsX4_evolve (wsV RX4 195 RX4 yX4_strongestBut wsX4_strongestBut) := goodIn_app (goodIn_of _ (by decide +kernel)) ggX4_evolve_X4_strongestBut
set_option maxRecDepth 20000 in
theorem ggX4_evolve_X4_cross : GoodIn wsX4_evolve wsX4_cross := goodIn_r _ [100, 101, 102, 103, 104, 105, 106, 107, 108, 109, 110, 111, 112, 113, 114, 115, 116, 117, 118, 55, 56, 57, 58, 59, 119, 120, 121, 122, 123, 80, 81, 82, 124, 6, 125, 293, 294, 295, 296, 297, 298, 299, 300, 301, 302, 303, 316, 317, 318, 315] (by decide +kernel) (by decide +kernel)
set_option maxRecDepth 20000 in
theorem gX4_evolve_X4_cross : GoodIn wsX4_evolve (wsV RX4 203 RX4 yX4_cross wsX4_cross) := goodIn_app (goodIn_of _ (by decide +kernel)) ggX4_evolve_X4_cross
set_option maxRecDepth 20000 in
theorem ggX4_evolve_X4_letChildJoin : GoodIn wsX4_evolve wsX4_letChildJoin := goodIn_ca (goodIn_r _ [129, 101, 130, 131, 132, 133, 105, 134, 107, 117, 118, 55, 56, 57, 58, 59, 135, 136, 137, 138, 108, 139, 140, 141, 6, 142, 3, 14, 15, 16, 17, 18, 19, 20, 21, 22, 23, 24, 25, 26, 27, 28, 29, 30, 31, 32, 33, 34, 35, 36, 37, 143, 144, 145, 146, 147, 148, 149, 150, 151, 152, 66, 153, 154, 155, 156, 157, 158, 159, 160, 161, 162, 163, 164, 165, 166, 167, 168, 169, 170, 171, 172, 173, 174, 175, 176, 177, 114, 115, 116, 119, 120, 121, 122, 123, 80, 81, 82, 124, 125, 178, 179, 180, 181, 182, 68, 183, 184, 185, 186, 187, 188, 189, 190, 191, 192, 193, 194, 195, 196, 197, 198, 199, 200, 201, 202, 203, 204, 205, 206, 207, 208, 209, 210, 211, 212, 213, 214, 215, 216, 217, 218, 219, 220, 221, 222, 223, 224, 225, 226, 227, 228, 229, 230, 231, 232, 233, 234, 235, 79, 236, 237, 238, 239, 240, 241, 242, 243, 244, 245, 246, 247, 248, 249, 250, 251, 252, 253, 254, 255, 256, 257, 258, 259, 260, 261, 262, 263, 264, 265, 266, 267, 268, 269, 270, 271, 272, 273, 274, 275, 276, 277, 278, 279, 280, 281, 282, 283, 284, 285, 286, 287, 288, 289, 290, 291, 292, 87, 88, 89, 90, 91, 92, 293, 294, 295, 296, 297, 298, 299, 300, 301, 302, 303, 304, 305, 306, 307, 308, 309, 310, 311, 316, 317, 318, 315, 312, 313, 314, 319, 320] (by decide +kernel) (by decide +kernel)) (goodIn_sub (fun _ h => List.mem_cons_of_mem _ (List.mem_append_right _ h)) (by decide +kernel))
set_option maxRecDepth 20000 in
theorem gX4_evolve_X4_letChildJoin : GoodIn wsX4_evolve (wsV RX4 207 RX4 yX4_letChildJoin wsX4_letChildJoin) := goodIn_app (goodIn_of _ (by decide +kernel)) ggX4_evolve_X4_letChildJoin
set_option maxRecDepth 20000 in
theorem ggX4_strategyAt_Jx4a65c_size_8abf5 : GoodIn wsX4_strategyAt wsJx4a65c_size_8abf5 := goodIn_r _ [9, 10, 39, 40, 41] (by decide +kernel) (by decide +kernel)
set_option maxRecDepth 20000 in
theorem gX4_strategyAt_Jx4a65c_size_8abf5 : GoodIn wsX4_strategyAt (wsV RX4 94 RJx4a65c yJx4a65c_size_8abf5 wsJx4a65c_size_8abf5) := goodIn_app (goodIn_of _ (by decide +kernel)) ggX4_strategyAt_Jx4a65c_size_8abf5
set_option maxRecDepth 20000 in
theorem ggX4_strategyAt_Jx4a65c_get_915e3 : GoodIn wsX4_strategyAt wsJx4a65c_get_915e3 := goodIn_r _ [14, 10, 15, 16, 17, 18, 19, 20, 21, 22, 23, 24, 25, 8, 26, 27, 39, 40, 41] (by decide +kernel) (by decide +kernel)
set_option maxRecDepth 20000 in
theorem gX4_strategyAt_Jx4a65c_get_915e3 : GoodIn wsX4_strategyAt (wsV RX4 119 RJx4a65c yJx4a65c_get_915e3 wsJx4a65c_get_915e3) := goodIn_app (goodIn_of _ (by decide +kernel)) ggX4_strategyAt_Jx4a65c_get_915e3
set_option maxRecDepth 20000 in
theorem ggX4_numberOf_Jx4a65c_size_8abf5 : GoodIn wsX4_numberOf wsJx4a65c_size_8abf5 := goodIn_r _ [7, 8, 58, 59, 60] (by decide +kernel) (by decide +kernel)
set_option maxRecDepth 20000 in
theorem gX4_numberOf_Jx4a65c_size_8abf5 : GoodIn wsX4_numberOf (wsV RX4 94 RJx4a65c yJx4a65c_size_8abf5 wsJx4a65c_size_8abf5) := goodIn_app (goodIn_of _ (by decide +kernel)) ggX4_numberOf_Jx4a65c_size_8abf5
set_option maxRecDepth 20000 in
theorem ggX4_numberOf_Jx4a65c_get_915e3 : GoodIn wsX4_numberOf wsJx4a65c_get_915e3 := goodIn_r _ [12, 8, 13, 14, 15, 16, 17, 18, 19, 20, 21, 22, 23, 6, 24, 25, 58, 59, 60] (by decide +kernel) (by decide +kernel)
set_option maxRecDepth 20000 in
theorem gX4_numberOf_Jx4a65c_get_915e3 : GoodIn wsX4_numberOf (wsV RX4 119 RJx4a65c yJx4a65c_get_915e3 wsJx4a65c_get_915e3) := goodIn_app (goodIn_of _ (by decide +kernel)) ggX4_numberOf_Jx4a65c_get_915e3
set_option maxRecDepth 20000 in
theorem ggX4_numberOf_X0_isSameAs : GoodIn wsX4_numberOf wsX0_isSameAs := goodIn_r _ [30, 31, 32, 33, 34, 35, 36, 37, 38, 61, 62, 63, 64] (by decide +kernel) (by decide +kernel)
set_option maxRecDepth 20000 in
theorem gX4_numberOf_X0_isSameAs : GoodIn wsX4_numberOf (wsV RX4 224 RX0 yX0_isSameAs wsX0_isSameAs) := goodIn_app (goodIn_of _ (by decide +kernel)) ggX4_numberOf_X0_isSameAs
set_option maxRecDepth 20000 in
theorem ggX4_keep_Jx4a65c_size_8abf5 : GoodIn wsX4_keep wsJx4a65c_size_8abf5 := goodIn_r _ [10, 11, 217, 218, 219] (by decide +kernel) (by decide +kernel)
set_option maxRecDepth 20000 in
theorem gX4_keep_Jx4a65c_size_8abf5 : GoodIn wsX4_keep (wsV RX4 94 RJx4a65c yJx4a65c_size_8abf5 wsJx4a65c_size_8abf5) := goodIn_app (goodIn_of _ (by decide +kernel)) ggX4_keep_Jx4a65c_size_8abf5
set_option maxRecDepth 20000 in
theorem ggX4_keep_X0_copy : GoodIn wsX4_keep wsX0_copy := goodIn_r _ [16, 17, 18, 15, 19, 20, 21, 22, 23, 24, 25, 26, 27, 28, 29, 30, 31, 32, 33, 34, 35, 36, 37, 38, 39, 40, 41, 42, 43, 44, 45, 46, 47, 48, 49, 50, 51, 52, 53, 54, 55, 56, 57, 58, 59, 214, 215, 216, 220] (by decide +kernel) (by decide +kernel)
set_option maxRecDepth 20000 in
theorem gX4_keep_X0_copy : GoodIn wsX4_keep (wsV RX4 228 RX0 yX0_copy wsX0_copy) := goodIn_app (goodIn_of _ (by decide +kernel)) ggX4_keep_X0_copy
set_option maxRecDepth 20000 in
theorem ggX4_keep_X3_init : GoodIn wsX4_keep wsX3_init := goodIn_r _ [62, 63, 24, 25, 64, 27, 28, 65, 66, 67, 68, 69, 70, 71, 72, 73, 32, 33, 34, 35, 36, 37, 38, 39, 40, 220, 206, 207, 208, 209, 210, 211, 212, 213] (by decide +kernel) (by decide +kernel)
set_option maxRecDepth 20000 in
theorem gX4_keep_X3_init : GoodIn wsX4_keep (wsX3_init) := ggX4_keep_X3_init
set_option maxRecDepth 20000 in
theorem ggX4_keep_X4_stepsOfLine : GoodIn wsX4_keep wsX4_stepsOfLine := goodIn_r _ [77, 1, 78, 6, 7, 8, 9, 10, 11, 79, 80, 81, 82, 83, 84, 85, 86, 87, 88, 89, 90, 91, 92, 93, 94, 95, 195, 196, 197, 198, 199, 200, 201, 202, 203, 204, 205, 206, 207, 208, 209, 210, 211, 212, 213, 217, 218, 219] (by decide +kernel) (by decide +kernel)
set_option maxRecDepth 20000 in
theorem gX4_keep_X4_stepsOfLine : GoodIn wsX4_keep (wsV RX4 238 RX4 yX4_stepsOfLine wsX4_stepsOfLine) := goodIn_app (goodIn_of _ (by decide +kernel)) ggX4_keep_X4_stepsOfLine
set_option maxRecDepth 20000 in
theorem ggX4_keep_X0_bidFor : GoodIn wsX4_keep wsX0_bidFor := goodIn_r _ [99, 19, 29, 100, 101, 37, 102, 103, 36, 38, 104, 105, 106, 107, 108, 109, 45, 46, 47, 28, 48, 40, 110, 111, 15, 112, 113, 114, 115, 116, 117, 118, 119, 120, 121, 122, 123, 124, 125, 126, 54, 55, 56, 127, 128, 129, 130, 131, 132, 133, 134, 135, 136, 214, 215, 216, 221, 222, 220] (by decide +kernel) (by decide +kernel)
set_option maxRecDepth 20000 in
theorem gX4_keep_X0_bidFor : GoodIn wsX4_keep (wsV RX4 243 RX0 yX0_bidFor wsX0_bidFor) := goodIn_app (goodIn_of _ (by decide +kernel)) ggX4_keep_X0_bidFor
set_option maxRecDepth 20000 in
theorem ggX4_keep_X1_put : GoodIn wsX4_keep wsX1_put := goodIn_r _ [56, 40, 220] (by decide +kernel) (by decide +kernel)
set_option maxRecDepth 20000 in
theorem gX4_keep_X1_put : GoodIn wsX4_keep (wsV RX4 161 RX1 yX1_put wsX1_put) := goodIn_app (goodIn_of _ (by decide +kernel)) ggX4_keep_X1_put
set_option maxRecDepth 20000 in
theorem ggX4_keep_X4_kindOf : GoodIn wsX4_keep wsX4_kindOf := goodIn_r _ [141, 1, 78, 6, 7, 8, 9, 10, 11, 79, 80, 81, 82, 83, 84, 85, 86, 87, 88, 89, 90, 91, 92, 93, 94, 95, 142, 143, 144, 28, 145, 40, 146, 46, 47, 48, 195, 196, 197, 198, 199, 200, 201, 202, 203, 204, 205, 206, 207, 208, 209, 210, 211, 212, 213, 217, 218, 219, 220] (by decide +kernel) (by decide +kernel)
set_option maxRecDepth 20000 in
theorem gX4_keep_X4_kindOf : GoodIn wsX4_keep (wsV RX4 246 RX4 yX4_kindOf wsX4_kindOf) := goodIn_app (goodIn_of _ (by decide +kernel)) ggX4_keep_X4_kindOf
set_option maxRecDepth 20000 in
theorem ggX4_keep_Jx4a65c_add_9ea2d : GoodIn wsX4_keep wsJx4a65c_add_9ea2d := goodIn_r _ [150, 151, 152, 95, 11, 153, 154, 155, 9, 156, 157, 158, 159, 160, 161, 162, 163, 164, 165, 166, 36, 37, 38, 167, 168, 169, 170, 171, 172, 173, 174, 175, 176, 177, 178, 179, 180, 181, 182, 183, 184, 185, 186, 187, 188, 189, 190, 101, 102, 191, 192, 193, 194, 217, 218, 219] (by decide +kernel) (by decide +kernel)
set_option maxRecDepth 20000 in
theorem gX4_keep_Jx4a65c_add_9ea2d : GoodIn wsX4_keep (wsV RX4 250 RJx4a65c yJx4a65c_add_9ea2d wsJx4a65c_add_9ea2d) := goodIn_app (goodIn_of _ (by decide +kernel)) ggX4_keep_Jx4a65c_add_9ea2d
set_option maxRecDepth 20000 in
theorem ggX4_stepsOfLine_Jx4a65c_size_8abf5 : GoodIn wsX4_stepsOfLine wsJx4a65c_size_8abf5 := goodIn_r _ [7, 8, 45, 46, 47] (by decide +kernel) (by decide +kernel)
set_option maxRecDepth 20000 in
theorem gX4_stepsOfLine_Jx4a65c_size_8abf5 : GoodIn wsX4_stepsOfLine (wsV RX4 94 RJx4a65c yJx4a65c_size_8abf5 wsJx4a65c_size_8abf5) := goodIn_app (goodIn_of _ (by decide +kernel)) ggX4_stepsOfLine_Jx4a65c_size_8abf5
set_option maxRecDepth 20000 in
theorem ggX4_stepsOfLine_Jx4a65c_get_915e3 : GoodIn wsX4_stepsOfLine wsJx4a65c_get_915e3 := goodIn_r _ [12, 8, 13, 14, 15, 16, 17, 18, 19, 20, 21, 22, 23, 6, 24, 25, 45, 46, 47] (by decide +kernel) (by decide +kernel)
set_option maxRecDepth 20000 in
theorem gX4_stepsOfLine_Jx4a65c_get_915e3 : GoodIn wsX4_stepsOfLine (wsV RX4 119 RJx4a65c yJx4a65c_get_915e3 wsJx4a65c_get_915e3) := goodIn_app (goodIn_of _ (by decide +kernel)) ggX4_stepsOfLine_Jx4a65c_get_915e3
set_option maxRecDepth 20000 in
theorem ggX4_kindOf_Jx4a65c_size_8abf5 : GoodIn wsX4_kindOf wsJx4a65c_size_8abf5 := goodIn_r _ [7, 8, 55, 56, 57] (by decide +kernel) (by decide +kernel)
set_option maxRecDepth 20000 in
theorem gX4_kindOf_Jx4a65c_size_8abf5 : GoodIn wsX4_kindOf (wsV RX4 94 RJx4a65c yJx4a65c_size_8abf5 wsJx4a65c_size_8abf5) := goodIn_app (goodIn_of _ (by decide +kernel)) ggX4_kindOf_Jx4a65c_size_8abf5
set_option maxRecDepth 20000 in
theorem ggX4_kindOf_Jx4a65c_get_915e3 : GoodIn wsX4_kindOf wsJx4a65c_get_915e3 := goodIn_r _ [12, 8, 13, 14, 15, 16, 17, 18, 19, 20, 21, 22, 23, 6, 24, 25, 55, 56, 57] (by decide +kernel) (by decide +kernel)
set_option maxRecDepth 20000 in
theorem gX4_kindOf_Jx4a65c_get_915e3 : GoodIn wsX4_kindOf (wsV RX4 119 RJx4a65c yJx4a65c_get_915e3 wsJx4a65c_get_915e3) := goodIn_app (goodIn_of _ (by decide +kernel)) ggX4_kindOf_Jx4a65c_get_915e3
set_option maxRecDepth 20000 in
theorem ggX4_kindOf_X1_isSameAs : GoodIn wsX4_kindOf wsX1_isSameAs := goodIn_r _ [30, 31, 32, 33, 34, 29, 35, 58] (by decide +kernel) (by decide +kernel)
set_option maxRecDepth 20000 in
theorem gX4_kindOf_X1_isSameAs : GoodIn wsX4_kindOf (wsV RX4 253 RX1 yX1_isSameAs wsX1_isSameAs) := goodIn_app (goodIn_of _ (by decide +kernel)) ggX4_kindOf_X1_isSameAs
set_option maxRecDepth 20000 in
theorem ggX4_poolSize_Jx4a65c_size_8abf5 : GoodIn wsX4_poolSize wsJx4a65c_size_8abf5 := goodIn_r _ [7, 8, 45, 46, 47] (by decide +kernel) (by decide +kernel)
set_option maxRecDepth 20000 in
theorem gX4_poolSize_Jx4a65c_size_8abf5 : GoodIn wsX4_poolSize (wsV RX4 94 RJx4a65c yJx4a65c_size_8abf5 wsJx4a65c_size_8abf5) := goodIn_app (goodIn_of _ (by decide +kernel)) ggX4_poolSize_Jx4a65c_size_8abf5
set_option maxRecDepth 20000 in
theorem ggX4_poolSize_Jx4a65c_get_915e3 : GoodIn wsX4_poolSize wsJx4a65c_get_915e3 := goodIn_r _ [12, 8, 13, 14, 15, 16, 17, 18, 19, 20, 21, 22, 23, 6, 24, 25, 45, 46, 47] (by decide +kernel) (by decide +kernel)
set_option maxRecDepth 20000 in
theorem gX4_poolSize_Jx4a65c_get_915e3 : GoodIn wsX4_poolSize (wsV RX4 119 RJx4a65c yJx4a65c_get_915e3 wsJx4a65c_get_915e3) := goodIn_app (goodIn_of _ (by decide +kernel)) ggX4_poolSize_Jx4a65c_get_915e3
set_option maxRecDepth 20000 in
theorem ggX4_profitOf_X4_paid : GoodIn wsX4_profitOf wsX4_paid := goodIn_r _ [4] (by decide +kernel) (by decide +kernel)
set_option maxRecDepth 20000 in
theorem gX4_profitOf_X4_paid : GoodIn wsX4_profitOf (va_wsS RX4 259 yX4_paid wsX4_paid) := goodIn_app (goodIn_of _ (by decide +kernel)) ggX4_profitOf_X4_paid
set_option maxRecDepth 20000 in
theorem ggX4_profitAgainst_X3_bidFor : GoodIn wsX4_profitAgainst wsX3_bidFor := goodIn_r _ [5, 6, 7, 8, 9, 10, 11, 12, 23, 24, 25, 26, 27, 28, 29, 30, 31] (by decide +kernel) (by decide +kernel)
set_option maxRecDepth 20000 in
theorem gX4_profitAgainst_X3_bidFor : GoodIn wsX4_profitAgainst (wsV RX4 110 RX3 yX3_bidFor wsX3_bidFor) := goodIn_app (goodIn_of _ (by decide +kernel)) ggX4_profitAgainst_X3_bidFor
set_option maxRecDepth 20000 in
theorem ggX4_profitAgainst_X4_wins : GoodIn wsX4_profitAgainst wsX4_wins := goodIn_r _ [16] (by decide +kernel) (by decide +kernel)
set_option maxRecDepth 20000 in
theorem gX4_profitAgainst_X4_wins : GoodIn wsX4_profitAgainst (va_wsS RX4 263 yX4_wins wsX4_wins) := goodIn_app (goodIn_of _ (by decide +kernel)) ggX4_profitAgainst_X4_wins
set_option maxRecDepth 20000 in
theorem ggX4_profitAgainst_X4_profitOf : GoodIn wsX4_profitAgainst wsX4_profitOf := goodIn_r _ [19, 20, 21, 15, 22] (by decide +kernel) (by decide +kernel)
set_option maxRecDepth 20000 in
theorem gX4_profitAgainst_X4_profitOf : GoodIn wsX4_profitAgainst (va_wsS RX4 267 yX4_profitOf wsX4_profitOf) := goodIn_app (goodIn_of _ (by decide +kernel)) ggX4_profitAgainst_X4_profitOf
set_option maxRecDepth 20000 in
theorem ggX4_worthByStrategies_Jx4a65c_size_8abf5 : GoodIn wsX4_worthByStrategies wsJx4a65c_size_8abf5 := goodIn_r _ [7, 8, 78, 79, 80] (by decide +kernel) (by decide +kernel)
set_option maxRecDepth 20000 in
theorem gX4_worthByStrategies_Jx4a65c_size_8abf5 : GoodIn wsX4_worthByStrategies (wsV RX4 94 RJx4a65c yJx4a65c_size_8abf5 wsJx4a65c_size_8abf5) := goodIn_app (goodIn_of _ (by decide +kernel)) ggX4_worthByStrategies_Jx4a65c_size_8abf5
set_option maxRecDepth 20000 in
theorem ggX4_worthByStrategies_Jx4a65c_get_915e3 : GoodIn wsX4_worthByStrategies wsJx4a65c_get_915e3 := goodIn_r _ [12, 8, 13, 14, 15, 16, 17, 18, 19, 20, 21, 22, 23, 6, 24, 25, 78, 79, 80] (by decide +kernel) (by decide +kernel)
set_option maxRecDepth 20000 in
theorem gX4_worthByStrategies_Jx4a65c_get_915e3 : GoodIn wsX4_worthByStrategies (wsV RX4 119 RJx4a65c yJx4a65c_get_915e3 wsJx4a65c_get_915e3) := goodIn_app (goodIn_of _ (by decide +kernel)) ggX4_worthByStrategies_Jx4a65c_get_915e3
set_option maxRecDepth 20000 in
theorem ggX4_worthByStrategies_X4_profitOfRounds : GoodIn wsX4_worthByStrategies wsX4_profitOfRounds := goodIn_r _ [30, 31, 32, 33, 34, 35, 36, 37, 38, 39, 40, 41, 29, 42, 43, 44, 45, 46, 47, 48, 49, 50, 51, 52, 53, 54, 55, 56, 57, 58, 59, 60, 61, 62, 63, 64, 65, 66, 67, 68, 69, 81, 70, 71, 72, 73, 74, 75, 76, 77] (by decide +kernel) (by decide +kernel)
set_option maxRecDepth 20000 in
theorem gX4_worthByStrategies_X4_profitOfRounds : GoodIn wsX4_worthByStrategies (wsV RX4 271 RX4 yX4_profitOfRounds wsX4_profitOfRounds) := goodIn_app (goodIn_of _ (by decide +kernel)) ggX4_worthByStrategies_X4_profitOfRounds
set_option maxRecDepth 20000 in
theorem ggX4_profitOfRounds_X1_at : GoodIn wsX4_profitOfRounds wsX1_at := goodIn_r _ [8, 9, 41] (by decide +kernel) (by decide +kernel)
set_option maxRecDepth 20000 in
theorem gX4_profitOfRounds_X1_at : GoodIn wsX4_profitOfRounds (wsV RX4 181 RX1 yX1_at wsX1_at) := goodIn_app (goodIn_of _ (by decide +kernel)) ggX4_profitOfRounds_X1_at
set_option maxRecDepth 20000 in
theorem ggX4_profitOfRounds_X4_profitAgainst : GoodIn wsX4_profitOfRounds wsX4_profitAgainst := goodIn_r _ [13, 14, 15, 16, 17, 18, 19, 20, 5, 6, 7, 8, 9, 21, 22, 12, 23, 24, 25, 26, 27, 28, 29, 42, 43, 44, 45, 46, 47, 48, 49, 41] (by decide +kernel) (by decide +kernel)
set_option maxRecDepth 20000 in
theorem gX4_profitOfRounds_X4_profitAgainst : GoodIn wsX4_profitOfRounds (va_wsS RX4 173 yX4_profitAgainst wsX4_profitAgainst) := goodIn_app (goodIn_of _ (by decide +kernel)) ggX4_profitOfRounds_X4_profitAgainst
set_option maxRecDepth 20000 in
theorem ggX4_layBids_Jx4a65c_size_8abf5 : GoodIn wsX4_layBids wsJx4a65c_size_8abf5 := goodIn_r _ [7, 8, 61, 62, 63] (by decide +kernel) (by decide +kernel)
set_option maxRecDepth 20000 in
theorem gX4_layBids_Jx4a65c_size_8abf5 : GoodIn wsX4_layBids (wsV RX4 94 RJx4a65c yJx4a65c_size_8abf5 wsJx4a65c_size_8abf5) := goodIn_app (goodIn_of _ (by decide +kernel)) ggX4_layBids_Jx4a65c_size_8abf5
set_option maxRecDepth 20000 in
theorem ggX4_layBids_Jx4a65c_get_915e3 : GoodIn wsX4_layBids wsJx4a65c_get_915e3 := goodIn_r _ [12, 8, 13, 14, 15, 16, 17, 18, 19, 20, 21, 22, 23, 6, 24, 25, 61, 62, 63] (by decide +kernel) (by decide +kernel)
set_option maxRecDepth 20000 in
theorem gX4_layBids_Jx4a65c_get_915e3 : GoodIn wsX4_layBids (wsV RX4 119 RJx4a65c yJx4a65c_get_915e3 wsJx4a65c_get_915e3) := goodIn_app (goodIn_of _ (by decide +kernel)) ggX4_layBids_Jx4a65c_get_915e3
set_option maxRecDepth 20000 in
theorem ggX4_layBids_X3_bidFor : GoodIn wsX4_layBids wsX3_bidFor := goodIn_r _ [30, 31, 32, 33, 34, 35, 36, 37, 53, 54, 55, 56, 57, 58, 59, 60, 64] (by decide +kernel) (by decide +kernel)
set_option maxRecDepth 20000 in
theorem gX4_layBids_X3_bidFor : GoodIn wsX4_layBids (wsV RX4 110 RX3 yX3_bidFor wsX3_bidFor) := goodIn_app (goodIn_of _ (by decide +kernel)) ggX4_layBids_X3_bidFor
set_option maxRecDepth 20000 in
theorem ggX4_layBids_X1_put : GoodIn wsX4_layBids wsX1_put := goodIn_r _ [41, 37, 64] (by decide +kernel) (by decide +kernel)
set_option maxRecDepth 20000 in
theorem gX4_layBids_X1_put : GoodIn wsX4_layBids (wsV RX4 161 RX1 yX1_put wsX1_put) := goodIn_app (goodIn_of _ (by decide +kernel)) ggX4_layBids_X1_put
set_option maxRecDepth 20000 in
theorem ggX4_profitInRows_X1_at : GoodIn wsX4_profitInRows wsX1_at := goodIn_r _ [7, 8, 61] (by decide +kernel) (by decide +kernel)
set_option maxRecDepth 20000 in
theorem gX4_profitInRows_X1_at : GoodIn wsX4_profitInRows (wsV RX4 181 RX1 yX1_at wsX1_at) := goodIn_app (goodIn_of _ (by decide +kernel)) ggX4_profitInRows_X1_at
set_option maxRecDepth 20000 in
theorem ggX4_profitInRows_Jx4a65c_size_8abf5 : GoodIn wsX4_profitInRows wsJx4a65c_size_8abf5 := goodIn_r _ [13, 14, 62, 63, 64] (by decide +kernel) (by decide +kernel)
set_option maxRecDepth 20000 in
theorem gX4_profitInRows_Jx4a65c_size_8abf5 : GoodIn wsX4_profitInRows (wsV RX4 94 RJx4a65c yJx4a65c_size_8abf5 wsJx4a65c_size_8abf5) := goodIn_app (goodIn_of _ (by decide +kernel)) ggX4_profitInRows_Jx4a65c_size_8abf5
set_option maxRecDepth 20000 in
theorem ggX4_profitInRows_Jx4a65c_get_915e3 : GoodIn wsX4_profitInRows wsJx4a65c_get_915e3 := goodIn_r _ [18, 14, 19, 20, 21, 22, 23, 24, 25, 26, 27, 28, 29, 12, 30, 31, 62, 63, 64] (by decide +kernel) (by decide +kernel)
set_option maxRecDepth 20000 in
theorem gX4_profitInRows_Jx4a65c_get_915e3 : GoodIn wsX4_profitInRows (wsV RX4 119 RJx4a65c yJx4a65c_get_915e3 wsJx4a65c_get_915e3) := goodIn_app (goodIn_of _ (by decide +kernel)) ggX4_profitInRows_Jx4a65c_get_915e3
set_option maxRecDepth 20000 in
theorem ggX4_profitInRows_X4_wins : GoodIn wsX4_profitInRows wsX4_wins := goodIn_r _ [35] (by decide +kernel) (by decide +kernel)
set_option maxRecDepth 20000 in
theorem gX4_profitInRows_X4_wins : GoodIn wsX4_profitInRows (va_wsS RX4 263 yX4_wins wsX4_wins) := goodIn_app (goodIn_of _ (by decide +kernel)) ggX4_profitInRows_X4_wins
set_option maxRecDepth 20000 in
theorem ggX4_profitInRows_X4_profitOf : GoodIn wsX4_profitInRows wsX4_profitOf := goodIn_r _ [38, 39, 40, 34, 41] (by decide +kernel) (by decide +kernel)
set_option maxRecDepth 20000 in
theorem gX4_profitInRows_X4_profitOf : GoodIn wsX4_profitInRows (va_wsS RX4 267 yX4_profitOf wsX4_profitOf) := goodIn_app (goodIn_of _ (by decide +kernel)) ggX4_profitInRows_X4_profitOf
set_option maxRecDepth 20000 in
theorem ggX4_layWorths_Jx4a65c_size_8abf5 : GoodIn wsX4_layWorths wsJx4a65c_size_8abf5 := goodIn_r _ [8, 9, 87, 88, 89] (by decide +kernel) (by decide +kernel)
set_option maxRecDepth 20000 in
theorem gX4_layWorths_Jx4a65c_size_8abf5 : GoodIn wsX4_layWorths (wsV RX4 94 RJx4a65c yJx4a65c_size_8abf5 wsJx4a65c_size_8abf5) := goodIn_app (goodIn_of _ (by decide +kernel)) ggX4_layWorths_Jx4a65c_size_8abf5
set_option maxRecDepth 20000 in
theorem ggX4_layWorths_Jx4a65c_get_915e3 : GoodIn wsX4_layWorths wsJx4a65c_get_915e3 := goodIn_r _ [13, 9, 14, 15, 16, 17, 18, 19, 20, 21, 22, 23, 24, 7, 25, 26, 87, 88, 89] (by decide +kernel) (by decide +kernel)
set_option maxRecDepth 20000 in
theorem gX4_layWorths_Jx4a65c_get_915e3 : GoodIn wsX4_layWorths (wsV RX4 119 RJx4a65c yJx4a65c_get_915e3 wsJx4a65c_get_915e3) := goodIn_app (goodIn_of _ (by decide +kernel)) ggX4_layWorths_Jx4a65c_get_915e3
set_option maxRecDepth 20000 in
theorem ggX4_layWorths_X4_worthByStrategies : GoodIn wsX4_layWorths wsX4_worthByStrategies := goodIn_r _ [31, 1, 2, 4, 5, 6, 7, 8, 9, 10, 11, 12, 13, 14, 15, 16, 17, 18, 19, 20, 21, 22, 23, 24, 25, 26, 32, 33, 34, 30, 35, 36, 37, 38, 39, 40, 41, 42, 43, 44, 45, 46, 47, 48, 49, 50, 51, 52, 53, 54, 55, 56, 57, 58, 59, 60, 61, 62, 63, 68, 69, 70, 71, 72, 73, 74, 75, 76, 77, 78, 79, 80, 81, 82, 83, 84, 85, 86, 87, 88, 89, 90] (by decide +kernel) (by decide +kernel)
set_option maxRecDepth 20000 in
theorem gX4_layWorths_X4_worthByStrategies : GoodIn wsX4_layWorths (wsV RX4 177 RX4 yX4_worthByStrategies wsX4_worthByStrategies) := goodIn_app (goodIn_of _ (by decide +kernel)) ggX4_layWorths_X4_worthByStrategies
set_option maxRecDepth 20000 in
theorem ggX4_layWorths_X1_put : GoodIn wsX4_layWorths wsX1_put := goodIn_r _ [67, 44, 90] (by decide +kernel) (by decide +kernel)
set_option maxRecDepth 20000 in
theorem gX4_layWorths_X1_put : GoodIn wsX4_layWorths (wsV RX4 161 RX1 yX1_put wsX1_put) := goodIn_app (goodIn_of _ (by decide +kernel)) ggX4_layWorths_X1_put
set_option maxRecDepth 20000 in
theorem ggX4_strongestBut_Jx4a65c_size_8abf5 : GoodIn wsX4_strongestBut wsJx4a65c_size_8abf5 := goodIn_r _ [8, 9, 52, 53, 54] (by decide +kernel) (by decide +kernel)
set_option maxRecDepth 20000 in
theorem gX4_strongestBut_Jx4a65c_size_8abf5 : GoodIn wsX4_strongestBut (wsV RX4 94 RJx4a65c yJx4a65c_size_8abf5 wsJx4a65c_size_8abf5) := goodIn_app (goodIn_of _ (by decide +kernel)) ggX4_strongestBut_Jx4a65c_size_8abf5
set_option maxRecDepth 20000 in
theorem ggX4_strongestBut_Jx4a65c_get_915e3 : GoodIn wsX4_strongestBut wsJx4a65c_get_915e3 := goodIn_r _ [13, 9, 14, 15, 16, 17, 18, 19, 20, 21, 22, 23, 24, 7, 25, 26, 52, 53, 54] (by decide +kernel) (by decide +kernel)
set_option maxRecDepth 20000 in
theorem gX4_strongestBut_Jx4a65c_get_915e3 : GoodIn wsX4_strongestBut (wsV RX4 119 RJx4a65c yJx4a65c_get_915e3 wsJx4a65c_get_915e3) := goodIn_app (goodIn_of _ (by decide +kernel)) ggX4_strongestBut_Jx4a65c_get_915e3
set_option maxRecDepth 20000 in
theorem ggX4_strongestBut_X1_at : GoodIn wsX4_strongestBut wsX1_at := goodIn_r _ [31, 32, 55] (by decide +kernel) (by decide +kernel)
set_option maxRecDepth 20000 in
theorem gX4_strongestBut_X1_at : GoodIn wsX4_strongestBut (wsV RX4 181 RX1 yX1_at wsX1_at) := goodIn_app (goodIn_of _ (by decide +kernel)) ggX4_strongestBut_X1_at
set_option maxRecDepth 20000 in
theorem ggX4_weakest_Jx4a65c_size_8abf5 : GoodIn wsX4_weakest wsJx4a65c_size_8abf5 := goodIn_r _ [8, 9, 52, 53, 54] (by decide +kernel) (by decide +kernel)
set_option maxRecDepth 20000 in
theorem gX4_weakest_Jx4a65c_size_8abf5 : GoodIn wsX4_weakest (wsV RX4 94 RJx4a65c yJx4a65c_size_8abf5 wsJx4a65c_size_8abf5) := goodIn_app (goodIn_of _ (by decide +kernel)) ggX4_weakest_Jx4a65c_size_8abf5
set_option maxRecDepth 20000 in
theorem ggX4_weakest_Jx4a65c_get_915e3 : GoodIn wsX4_weakest wsJx4a65c_get_915e3 := goodIn_r _ [13, 9, 14, 15, 16, 17, 18, 19, 20, 21, 22, 23, 24, 7, 25, 26, 52, 53, 54] (by decide +kernel) (by decide +kernel)
set_option maxRecDepth 20000 in
theorem gX4_weakest_Jx4a65c_get_915e3 : GoodIn wsX4_weakest (wsV RX4 119 RJx4a65c yJx4a65c_get_915e3 wsJx4a65c_get_915e3) := goodIn_app (goodIn_of _ (by decide +kernel)) ggX4_weakest_Jx4a65c_get_915e3
set_option maxRecDepth 20000 in
theorem ggX4_weakest_X1_at : GoodIn wsX4_weakest wsX1_at := goodIn_r _ [31, 32, 55] (by decide +kernel) (by decide +kernel)
set_option maxRecDepth 20000 in
theorem gX4_weakest_X1_at : GoodIn wsX4_weakest (wsV RX4 181 RX1 yX1_at wsX1_at) := goodIn_app (goodIn_of _ (by decide +kernel)) ggX4_weakest_X1_at
set_option maxRecDepth 20000 in
theorem ggX4_cross_X0_empty : GoodIn wsX4_cross wsX0_empty := goodIn_r _ [6, 7, 8, 46, 47, 48] (by decide +kernel) (by decide +kernel)
set_option maxRecDepth 20000 in
theorem gX4_cross_X0_empty : GoodIn wsX4_cross (wsV RX4 82 RX0 yX0_empty wsX0_empty) := goodIn_app (goodIn_of _ (by decide +kernel)) ggX4_cross_X0_empty
set_option maxRecDepth 20000 in
theorem ggX4_cross_X0_length : GoodIn wsX4_cross wsX0_length := goodIn_r _ [12, 7, 46, 47, 48] (by decide +kernel) (by decide +kernel)
set_option maxRecDepth 20000 in
theorem gX4_cross_X0_length : GoodIn wsX4_cross (wsV RX4 78 RX0 yX0_length wsX0_length) := goodIn_app (goodIn_of _ (by decide +kernel)) ggX4_cross_X0_length
set_option maxRecDepth 20000 in
theorem ggX4_cross_X0_addPart : GoodIn wsX4_cross wsX0_addPart := goodIn_r _ [16, 17, 18, 19, 20, 21, 22, 23, 24, 25, 26, 5, 27, 7, 8, 28, 29, 30, 31, 32, 33, 34, 46, 47, 48, 49] (by decide +kernel) (by decide +kernel)
set_option maxRecDepth 20000 in
theorem gX4_cross_X0_addPart : GoodIn wsX4_cross (wsV RX4 275 RX0 yX0_addPart wsX0_addPart) := goodIn_app (goodIn_of _ (by decide +kernel)) ggX4_cross_X0_addPart
set_option maxRecDepth 20000 in
theorem ggX4_letChildJoin_X0_isRight : GoodIn wsX4_letChildJoin wsX0_isRight := goodIn_r _ [7, 8, 9, 10, 11, 12, 13, 14, 15, 242, 243, 244, 245] (by decide +kernel) (by decide +kernel)
set_option maxRecDepth 20000 in
theorem gX4_letChildJoin_X0_isRight : GoodIn wsX4_letChildJoin (wsV RX4 85 RX0 yX0_isRight wsX0_isRight) := goodIn_app (goodIn_of _ (by decide +kernel)) ggX4_letChildJoin_X0_isRight
set_option maxRecDepth 20000 in
theorem ggX4_letChildJoin_X0_hasAnyOf : GoodIn wsX4_letChildJoin wsX0_hasAnyOf := goodIn_r _ [19, 20, 242, 243, 244] (by decide +kernel) (by decide +kernel)
set_option maxRecDepth 20000 in
theorem gX4_letChildJoin_X0_hasAnyOf : GoodIn wsX4_letChildJoin (wsV RX4 138 RX0 yX0_hasAnyOf wsX0_hasAnyOf) := goodIn_app (goodIn_of _ (by decide +kernel)) ggX4_letChildJoin_X0_hasAnyOf
set_option maxRecDepth 20000 in
theorem ggX4_letChildJoin_X4_numberOf : GoodIn wsX4_letChildJoin wsX4_numberOf := goodIn_r _ [25, 26, 27, 28, 29, 30, 31, 32, 33, 34, 35, 36, 37, 38, 39, 40, 41, 42, 43, 44, 45, 46, 47, 48, 49, 50, 51, 52, 53, 6, 54, 8, 9, 10, 11, 12, 13, 14, 15, 223, 224, 225, 226, 227, 228, 229, 230, 231, 232, 233, 234, 235, 236, 237, 238, 239, 240, 241, 246, 247, 248, 242, 243, 244, 245] (by decide +kernel) (by decide +kernel)
set_option maxRecDepth 20000 in
theorem gX4_letChildJoin_X4_numberOf : GoodIn wsX4_letChildJoin (wsV RX4 90 RX4 yX4_numberOf wsX4_numberOf) := goodIn_app (goodIn_of _ (by decide +kernel)) ggX4_letChildJoin_X4_numberOf
set_option maxRecDepth 20000 in
theorem ggX4_letChildJoin_X4_keep : GoodIn wsX4_letChildJoin wsX4_keep := goodIn_r _ [58, 26, 59, 60, 61, 62, 28, 29, 30, 31, 32, 33, 63, 64, 65, 6, 66, 67, 68, 8, 69, 70, 71, 72, 73, 74, 75, 76, 13, 9, 20, 77, 78, 79, 80, 81, 82, 83, 84, 85, 15, 86, 87, 88, 89, 10, 11, 12, 14, 90, 91, 92, 93, 94, 95, 96, 97, 98, 24, 99, 100, 101, 102, 103, 104, 105, 106, 107, 108, 109, 110, 111, 112, 113, 114, 115, 116, 117, 27, 34, 35, 36, 37, 38, 39, 40, 41, 42, 43, 44, 45, 46, 47, 48, 49, 50, 118, 119, 120, 121, 122, 123, 124, 125, 126, 127, 128, 129, 130, 131, 132, 133, 134, 135, 136, 137, 138, 139, 140, 141, 142, 143, 144, 145, 146, 147, 148, 149, 150, 151, 152, 153, 154, 155, 156, 157, 158, 159, 160, 161, 162, 163, 164, 165, 166, 167, 168, 169, 170, 171, 172, 173, 174, 175, 176, 177, 178, 179, 180, 181, 182, 183, 184, 185, 186, 187, 188, 189, 190, 191, 192, 193, 194, 195, 196, 197, 198, 199, 200, 201, 202, 203, 204, 205, 206, 207, 208, 209, 210, 211, 212, 213, 214, 215, 216, 223, 224, 225, 226, 227, 228, 229, 230, 231, 232, 233, 234, 235, 236, 237, 238, 239, 240, 241, 242, 243, 244, 246, 247, 248, 245, 249, 250] (by decide +kernel) (by decide +kernel)
set_option maxRecDepth 20000 in
theorem gX4_letChildJoin_X4_keep : GoodIn wsX4_letChildJoin (wsV RX4 99 RX4 yX4_keep wsX4_keep) := goodIn_app (goodIn_of _ (by decide +kernel)) ggX4_letChildJoin_X4_keep
set_option maxRecDepth 20000 in
theorem ggX4_letChildJoin_X4_strategyAt : GoodIn wsX4_letChildJoin wsX4_strategyAt := goodIn_ca (goodIn_r _ [220, 221, 222, 26, 27, 28, 29, 30, 31, 32, 33, 34, 35, 36, 37, 38, 39, 40, 41, 42, 43, 44, 45, 46, 47, 48, 49, 50, 223, 224, 225, 226, 227, 228, 229, 230, 231, 232, 233, 246, 247, 248] (by decide +kernel) (by decide +kernel)) (goodIn_sub (fun _ h => List.mem_cons_of_mem _ (List.mem_append_right _ h)) (by decide +kernel))
set_option maxRecDepth 20000 in
theorem gX4_letChildJoin_X4_strategyAt : GoodIn wsX4_letChildJoin (wsV RX4 103 RX4 yX4_strategyAt wsX4_strategyAt) := goodIn_app (goodIn_of _ (by decide +kernel)) ggX4_letChildJoin_X4_strategyAt
