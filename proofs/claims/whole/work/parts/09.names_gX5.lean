set_option maxRecDepth 20000 in
theorem ggX5_isStrategy_X5_lies : GoodIn wsX5_isStrategy wsX5_lies := goodIn_r _ [5] (by decide +kernel) (by decide +kernel)
set_option maxRecDepth 20000 in
theorem gX5_isStrategy_X5_lies : GoodIn wsX5_isStrategy (va_wsS RX5 48 yX5_lies wsX5_lies) := goodIn_app (goodIn_of _ (by decide +kernel)) ggX5_isStrategy_X5_lies
set_option maxRecDepth 20000 in
theorem ggX5_isStep_X5_lies : GoodIn wsX5_isStep wsX5_lies := goodIn_r _ [4] (by decide +kernel) (by decide +kernel)
set_option maxRecDepth 20000 in
theorem gX5_isStep_X5_lies : GoodIn wsX5_isStep (va_wsS RX5 48 yX5_lies wsX5_lies) := goodIn_app (goodIn_of _ (by decide +kernel)) ggX5_isStep_X5_lies
set_option maxRecDepth 20000 in
theorem ggX5_isValue_X5_lies : GoodIn wsX5_isValue wsX5_lies := goodIn_r _ [4] (by decide +kernel) (by decide +kernel)
set_option maxRecDepth 20000 in
theorem gX5_isValue_X5_lies : GoodIn wsX5_isValue (va_wsS RX5 48 yX5_lies wsX5_lies) := goodIn_app (goodIn_of _ (by decide +kernel)) ggX5_isValue_X5_lies
set_option maxRecDepth 20000 in
theorem ggX5_isAuction_X5_lies : GoodIn wsX5_isAuction wsX5_lies := goodIn_r _ [4] (by decide +kernel) (by decide +kernel)
set_option maxRecDepth 20000 in
theorem gX5_isAuction_X5_lies : GoodIn wsX5_isAuction (va_wsS RX5 48 yX5_lies wsX5_lies) := goodIn_app (goodIn_of _ (by decide +kernel)) ggX5_isAuction_X5_lies
set_option maxRecDepth 20000 in
theorem ggX5_runs_X5_made : GoodIn wsX5_runs wsX5_made := goodIn_r _ [8, 9, 10] (by decide +kernel) (by decide +kernel)
set_option maxRecDepth 20000 in
theorem gX5_runs_X5_made : GoodIn wsX5_runs (va_wsS RX5 59 yX5_made wsX5_made) := goodIn_app (goodIn_of _ (by decide +kernel)) ggX5_runs_X5_made
set_option maxRecDepth 20000 in
theorem ggX5_bidOf_X5_runs : GoodIn wsX5_bidOf wsX5_runs := goodIn_r _ [6, 7, 8, 9, 1, 10, 11, 5, 12, 13, 14, 15, 16, 17, 18, 19, 20, 21, 22, 23, 24, 25, 26, 27, 28] (by decide +kernel) (by decide +kernel)
set_option maxRecDepth 20000 in
theorem gX5_bidOf_X5_runs : GoodIn wsX5_bidOf (wsV RX5 63 RX5 yX5_runs wsX5_runs) := goodIn_app (goodIn_of _ (by decide +kernel)) ggX5_bidOf_X5_runs
set_option maxRecDepth 20000 in
theorem ggX5_hasForbidden_X5_hasStep : GoodIn wsX5_hasForbidden wsX5_hasStep := goodIn_r _ [6, 7, 8, 9, 10, 11, 12, 13, 14, 15, 16, 17, 18, 19, 20, 21, 22] (by decide +kernel) (by decide +kernel)
set_option maxRecDepth 20000 in
theorem gX5_hasForbidden_X5_hasStep : GoodIn wsX5_hasForbidden (wsV RX5 67 RX5 yX5_hasStep wsX5_hasStep) := goodIn_app (goodIn_of _ (by decide +kernel)) ggX5_hasForbidden_X5_hasStep
set_option maxRecDepth 20000 in
theorem ggX5_found_X5_areSame : GoodIn wsX5_found wsX5_areSame := goodIn_r _ [6, 7, 8, 9, 10, 11, 12, 13, 14, 15, 16, 17, 18, 19, 20, 21, 22] (by decide +kernel) (by decide +kernel)
set_option maxRecDepth 20000 in
theorem gX5_found_X5_areSame : GoodIn wsX5_found (wsV RX5 70 RX5 yX5_areSame wsX5_areSame) := goodIn_app (goodIn_of _ (by decide +kernel)) ggX5_found_X5_areSame
set_option maxRecDepth 20000 in
theorem ggX5_step_X5_isStep : GoodIn wsX5_step wsX5_isStep := goodIn_r _ [6, 7, 8, 5, 9] (by decide +kernel) (by decide +kernel)
set_option maxRecDepth 20000 in
theorem gX5_step_X5_isStep : GoodIn wsX5_step (va_wsS RX5 73 yX5_isStep wsX5_isStep) := goodIn_app (goodIn_of _ (by decide +kernel)) ggX5_step_X5_isStep
set_option maxRecDepth 20000 in
theorem ggX5_step_X5_goes : GoodIn wsX5_step wsX5_goes := goodIn_r _ [13, 14, 15, 16, 17, 18, 19, 20, 21, 22, 23, 24, 25, 26, 27, 28] (by decide +kernel) (by decide +kernel)
set_option maxRecDepth 20000 in
theorem gX5_step_X5_goes : GoodIn wsX5_step (wsV RX5 77 RX5 yX5_goes wsX5_goes) := goodIn_app (goodIn_of _ (by decide +kernel)) ggX5_step_X5_goes
set_option maxRecDepth 20000 in
theorem ggX5_store_X5_found : GoodIn wsX5_store wsX5_found := goodIn_r _ [7, 1, 8, 9, 10, 6, 11, 2, 12, 34, 35, 36, 37, 38, 39, 40, 41, 42, 43, 44, 45, 46, 47] (by decide +kernel) (by decide +kernel)
set_option maxRecDepth 20000 in
theorem gX5_store_X5_found : GoodIn wsX5_store (wsV RX5 80 RX5 yX5_found wsX5_found) := goodIn_app (goodIn_of _ (by decide +kernel)) ggX5_store_X5_found
set_option maxRecDepth 20000 in
theorem ggX5_store_X5_runs : GoodIn wsX5_store wsX5_runs := goodIn_r _ [16, 17, 2, 12, 18, 19, 20, 6, 21, 22, 23, 34, 35, 36, 37, 38, 39, 40, 41, 42, 43, 44, 45, 46, 47] (by decide +kernel) (by decide +kernel)
set_option maxRecDepth 20000 in
theorem gX5_store_X5_runs : GoodIn wsX5_store (wsV RX5 63 RX5 yX5_runs wsX5_runs) := goodIn_app (goodIn_of _ (by decide +kernel)) ggX5_store_X5_runs
set_option maxRecDepth 20000 in
theorem ggX5_store_X5_goes : GoodIn wsX5_store wsX5_goes := goodIn_r _ [27, 28, 34, 35, 36, 37, 38, 39, 40, 41, 42, 43, 44, 45, 46, 47] (by decide +kernel) (by decide +kernel)
set_option maxRecDepth 20000 in
theorem gX5_store_X5_goes : GoodIn wsX5_store (wsV RX5 77 RX5 yX5_goes wsX5_goes) := goodIn_app (goodIn_of _ (by decide +kernel)) ggX5_store_X5_goes
set_option maxRecDepth 20000 in
theorem ggX5_store_X5_keeps : GoodIn wsX5_store wsX5_keeps := goodIn_r _ [32, 2, 1, 12, 33, 34, 35, 36, 37, 38, 39, 40, 41, 42, 43, 44, 45, 46, 47] (by decide +kernel) (by decide +kernel)
set_option maxRecDepth 20000 in
theorem gX5_store_X5_keeps : GoodIn wsX5_store (wsV RX5 84 RX5 yX5_keeps wsX5_keeps) := goodIn_app (goodIn_of _ (by decide +kernel)) ggX5_store_X5_keeps
set_option maxRecDepth 20000 in
theorem ggX5_bid_X5_isStrategy : GoodIn wsX5_bid wsX5_isStrategy := goodIn_r _ [5, 6, 7, 8, 4, 9, 35, 36, 37, 38, 39, 40, 41, 42, 43, 44, 45, 46, 47, 48] (by decide +kernel) (by decide +kernel)
set_option maxRecDepth 20000 in
theorem gX5_bid_X5_isStrategy : GoodIn wsX5_bid (wsV RX5 88 RX5 yX5_isStrategy wsX5_isStrategy) := goodIn_app (goodIn_of _ (by decide +kernel)) ggX5_bid_X5_isStrategy
set_option maxRecDepth 20000 in
theorem ggX5_bid_X5_isValue : GoodIn wsX5_bid wsX5_isValue := goodIn_r _ [12, 7, 8, 4, 9] (by decide +kernel) (by decide +kernel)
set_option maxRecDepth 20000 in
theorem gX5_bid_X5_isValue : GoodIn wsX5_bid (va_wsS RX5 91 yX5_isValue wsX5_isValue) := goodIn_app (goodIn_of _ (by decide +kernel)) ggX5_bid_X5_isValue
set_option maxRecDepth 20000 in
theorem ggX5_bid_X5_goes : GoodIn wsX5_bid wsX5_goes := goodIn_r _ [16, 17, 35, 36, 37, 38, 39, 40, 41, 42, 43, 44, 45, 46, 47, 48] (by decide +kernel) (by decide +kernel)
set_option maxRecDepth 20000 in
theorem gX5_bid_X5_goes : GoodIn wsX5_bid (wsV RX5 77 RX5 yX5_goes wsX5_goes) := goodIn_app (goodIn_of _ (by decide +kernel)) ggX5_bid_X5_goes
set_option maxRecDepth 20000 in
theorem ggX5_bid_X5_bidOf : GoodIn wsX5_bid wsX5_bidOf := goodIn_r _ [21, 22, 23, 24, 25, 4, 26, 27, 28, 29, 30, 31, 32, 33, 34, 35, 36, 37, 38, 39, 40, 41, 42, 43, 44, 45, 46, 47, 48] (by decide +kernel) (by decide +kernel)
set_option maxRecDepth 20000 in
theorem gX5_bid_X5_bidOf : GoodIn wsX5_bid (wsV RX5 94 RX5 yX5_bidOf wsX5_bidOf) := goodIn_app (goodIn_of _ (by decide +kernel)) ggX5_bid_X5_bidOf
set_option maxRecDepth 20000 in
theorem ggX5_alike_X5_isStrategy : GoodIn wsX5_alike wsX5_isStrategy := goodIn_r _ [6, 1, 7, 8, 5, 9, 32, 33, 34, 35, 36, 37, 38, 39, 40, 41, 42, 43, 44, 45] (by decide +kernel) (by decide +kernel)
set_option maxRecDepth 20000 in
theorem gX5_alike_X5_isStrategy : GoodIn wsX5_alike (wsV RX5 88 RX5 yX5_isStrategy wsX5_isStrategy) := goodIn_app (goodIn_of _ (by decide +kernel)) ggX5_alike_X5_isStrategy
set_option maxRecDepth 20000 in
theorem ggX5_alike_X5_goes : GoodIn wsX5_alike wsX5_goes := goodIn_r _ [13, 14, 32, 33, 34, 35, 36, 37, 38, 39, 40, 41, 42, 43, 44, 45] (by decide +kernel) (by decide +kernel)
set_option maxRecDepth 20000 in
theorem gX5_alike_X5_goes : GoodIn wsX5_alike (wsV RX5 77 RX5 yX5_goes wsX5_goes) := goodIn_app (goodIn_of _ (by decide +kernel)) ggX5_alike_X5_goes
set_option maxRecDepth 20000 in
theorem ggX5_alike_X5_bidOf : GoodIn wsX5_alike wsX5_bidOf := goodIn_r _ [18, 19, 20, 21, 22, 5, 23, 24, 25, 26, 27, 28, 29, 30, 31, 32, 33, 34, 35, 36, 37, 38, 39, 40, 41, 42, 43, 44, 45] (by decide +kernel) (by decide +kernel)
set_option maxRecDepth 20000 in
theorem gX5_alike_X5_bidOf : GoodIn wsX5_alike (wsV RX5 94 RX5 yX5_bidOf wsX5_bidOf) := goodIn_app (goodIn_of _ (by decide +kernel)) ggX5_alike_X5_bidOf
set_option maxRecDepth 20000 in
theorem ggX5_parent_X5_isStrategy : GoodIn wsX5_parent wsX5_isStrategy := goodIn_r _ [6, 7, 8, 9, 5, 10, 16, 17, 18, 19, 20, 21, 22, 23, 24, 25, 26, 27, 28, 29] (by decide +kernel) (by decide +kernel)
set_option maxRecDepth 20000 in
theorem gX5_parent_X5_isStrategy : GoodIn wsX5_parent (wsV RX5 88 RX5 yX5_isStrategy wsX5_isStrategy) := goodIn_app (goodIn_of _ (by decide +kernel)) ggX5_parent_X5_isStrategy
set_option maxRecDepth 20000 in
theorem ggX5_parent_X5_goes : GoodIn wsX5_parent wsX5_goes := goodIn_r _ [14, 15, 16, 17, 18, 19, 20, 21, 22, 23, 24, 25, 26, 27, 28, 29] (by decide +kernel) (by decide +kernel)
set_option maxRecDepth 20000 in
theorem gX5_parent_X5_goes : GoodIn wsX5_parent (wsV RX5 77 RX5 yX5_goes wsX5_goes) := goodIn_app (goodIn_of _ (by decide +kernel)) ggX5_parent_X5_goes
set_option maxRecDepth 20000 in
theorem ggX5_join_X5_isStrategy : GoodIn wsX5_join wsX5_isStrategy := goodIn_r _ [6, 7, 8, 9, 5, 10, 31, 32, 33, 34, 35, 36, 37, 38, 39, 40, 41, 42, 43, 44] (by decide +kernel) (by decide +kernel)
set_option maxRecDepth 20000 in
theorem gX5_join_X5_isStrategy : GoodIn wsX5_join (wsV RX5 88 RX5 yX5_isStrategy wsX5_isStrategy) := goodIn_app (goodIn_of _ (by decide +kernel)) ggX5_join_X5_isStrategy
set_option maxRecDepth 20000 in
theorem ggX5_join_X5_hasForbidden : GoodIn wsX5_join wsX5_hasForbidden := goodIn_r _ [14, 15, 16, 17, 18, 5, 19, 20, 21, 31, 32, 33, 34, 35, 36, 37, 38, 39, 40, 41, 42, 43, 44] (by decide +kernel) (by decide +kernel)
set_option maxRecDepth 20000 in
theorem gX5_join_X5_hasForbidden : GoodIn wsX5_join (wsV RX5 98 RX5 yX5_hasForbidden wsX5_hasForbidden) := goodIn_app (goodIn_of _ (by decide +kernel)) ggX5_join_X5_hasForbidden
set_option maxRecDepth 20000 in
theorem ggX5_join_X5_pooled : GoodIn wsX5_join wsX5_pooled := goodIn_r _ [25, 7, 1, 31, 32, 33, 34, 35, 36, 37, 38, 39, 40, 41, 42, 43, 44] (by decide +kernel) (by decide +kernel)
set_option maxRecDepth 20000 in
theorem gX5_join_X5_pooled : GoodIn wsX5_join (wsV RX5 101 RX5 yX5_pooled wsX5_pooled) := goodIn_app (goodIn_of _ (by decide +kernel)) ggX5_join_X5_pooled
set_option maxRecDepth 20000 in
theorem ggX5_join_X5_goes : GoodIn wsX5_join wsX5_goes := goodIn_r _ [29, 30, 31, 32, 33, 34, 35, 36, 37, 38, 39, 40, 41, 42, 43, 44] (by decide +kernel) (by decide +kernel)
set_option maxRecDepth 20000 in
theorem gX5_join_X5_goes : GoodIn wsX5_join (wsV RX5 77 RX5 yX5_goes wsX5_goes) := goodIn_app (goodIn_of _ (by decide +kernel)) ggX5_join_X5_goes
set_option maxRecDepth 20000 in
theorem ggX5_leave_X5_isStrategy : GoodIn wsX5_leave wsX5_isStrategy := goodIn_r _ [6, 7, 8, 9, 5, 10, 20, 21, 22, 23, 24, 25, 26, 27, 28, 29, 30, 31, 32, 33] (by decide +kernel) (by decide +kernel)
set_option maxRecDepth 20000 in
theorem gX5_leave_X5_isStrategy : GoodIn wsX5_leave (wsV RX5 88 RX5 yX5_isStrategy wsX5_isStrategy) := goodIn_app (goodIn_of _ (by decide +kernel)) ggX5_leave_X5_isStrategy
set_option maxRecDepth 20000 in
theorem ggX5_leave_X5_goes : GoodIn wsX5_leave wsX5_goes := goodIn_r _ [14, 15, 20, 21, 22, 23, 24, 25, 26, 27, 28, 29, 30, 31, 32, 33] (by decide +kernel) (by decide +kernel)
set_option maxRecDepth 20000 in
theorem gX5_leave_X5_goes : GoodIn wsX5_leave (wsV RX5 77 RX5 yX5_goes wsX5_goes) := goodIn_app (goodIn_of _ (by decide +kernel)) ggX5_leave_X5_goes
set_option maxRecDepth 20000 in
theorem ggX5_leave_X5_pooled : GoodIn wsX5_leave wsX5_pooled := goodIn_r _ [19, 7, 1, 20, 21, 22, 23, 24, 25, 26, 27, 28, 29, 30, 31, 32, 33] (by decide +kernel) (by decide +kernel)
set_option maxRecDepth 20000 in
theorem gX5_leave_X5_pooled : GoodIn wsX5_leave (wsV RX5 101 RX5 yX5_pooled wsX5_pooled) := goodIn_app (goodIn_of _ (by decide +kernel)) ggX5_leave_X5_pooled
set_option maxRecDepth 20000 in
theorem ggX5_isIn_X5_isStrategy : GoodIn wsX5_isIn wsX5_isStrategy := goodIn_r _ [6, 7, 8, 9, 5, 10, 16, 17, 18, 19, 20, 21, 22, 23, 24, 25, 26, 27, 28, 29] (by decide +kernel) (by decide +kernel)
set_option maxRecDepth 20000 in
theorem gX5_isIn_X5_isStrategy : GoodIn wsX5_isIn (wsV RX5 88 RX5 yX5_isStrategy wsX5_isStrategy) := goodIn_app (goodIn_of _ (by decide +kernel)) ggX5_isIn_X5_isStrategy
set_option maxRecDepth 20000 in
theorem ggX5_isIn_X5_goes : GoodIn wsX5_isIn wsX5_goes := goodIn_r _ [14, 15, 16, 17, 18, 19, 20, 21, 22, 23, 24, 25, 26, 27, 28, 29] (by decide +kernel) (by decide +kernel)
set_option maxRecDepth 20000 in
theorem gX5_isIn_X5_goes : GoodIn wsX5_isIn (wsV RX5 77 RX5 yX5_goes wsX5_goes) := goodIn_app (goodIn_of _ (by decide +kernel)) ggX5_isIn_X5_goes
set_option maxRecDepth 20000 in
theorem ggX5_forbid_X5_isStep : GoodIn wsX5_forbid wsX5_isStep := goodIn_r _ [9, 10, 11, 8, 12] (by decide +kernel) (by decide +kernel)
set_option maxRecDepth 20000 in
theorem gX5_forbid_X5_isStep : GoodIn wsX5_forbid (va_wsS RX5 73 yX5_isStep wsX5_isStep) := goodIn_app (goodIn_of _ (by decide +kernel)) ggX5_forbid_X5_isStep
set_option maxRecDepth 20000 in
theorem ggX5_forbid_X5_goes : GoodIn wsX5_forbid wsX5_goes := goodIn_r _ [16, 17, 24, 25, 26, 27, 28, 29, 30, 31, 32, 33, 34, 35, 36, 37] (by decide +kernel) (by decide +kernel)
set_option maxRecDepth 20000 in
theorem gX5_forbid_X5_goes : GoodIn wsX5_forbid (wsV RX5 77 RX5 yX5_goes wsX5_goes) := goodIn_app (goodIn_of _ (by decide +kernel)) ggX5_forbid_X5_goes
set_option maxRecDepth 20000 in
theorem ggX5_forbid_X5_hasStep : GoodIn wsX5_forbid wsX5_hasStep := goodIn_r _ [21, 22, 23, 24, 25, 26, 27, 28, 29, 30, 31, 32, 33, 34, 35, 36, 37] (by decide +kernel) (by decide +kernel)
set_option maxRecDepth 20000 in
theorem gX5_forbid_X5_hasStep : GoodIn wsX5_forbid (wsV RX5 67 RX5 yX5_hasStep wsX5_hasStep) := goodIn_app (goodIn_of _ (by decide +kernel)) ggX5_forbid_X5_hasStep
set_option maxRecDepth 20000 in
theorem ggX5_allow_X5_isStep : GoodIn wsX5_allow wsX5_isStep := goodIn_r _ [5, 6, 7, 4, 8] (by decide +kernel) (by decide +kernel)
set_option maxRecDepth 20000 in
theorem gX5_allow_X5_isStep : GoodIn wsX5_allow (va_wsS RX5 73 yX5_isStep wsX5_isStep) := goodIn_app (goodIn_of _ (by decide +kernel)) ggX5_allow_X5_isStep
set_option maxRecDepth 20000 in
theorem ggX5_allow_X5_goes : GoodIn wsX5_allow wsX5_goes := goodIn_r _ [12, 13, 14, 15, 16, 17, 18, 19, 20, 21, 22, 23, 24, 25, 26, 27] (by decide +kernel) (by decide +kernel)
set_option maxRecDepth 20000 in
theorem gX5_allow_X5_goes : GoodIn wsX5_allow (wsV RX5 77 RX5 yX5_goes wsX5_goes) := goodIn_app (goodIn_of _ (by decide +kernel)) ggX5_allow_X5_goes
set_option maxRecDepth 20000 in
theorem ggX5_tell_X5_isValue : GoodIn wsX5_tell wsX5_isValue := goodIn_r _ [7, 8, 9, 6, 10] (by decide +kernel) (by decide +kernel)
set_option maxRecDepth 20000 in
theorem gX5_tell_X5_isValue : GoodIn wsX5_tell (va_wsS RX5 91 yX5_isValue wsX5_isValue) := goodIn_app (goodIn_of _ (by decide +kernel)) ggX5_tell_X5_isValue
set_option maxRecDepth 20000 in
theorem ggX5_tell_X5_goes : GoodIn wsX5_tell wsX5_goes := goodIn_r _ [14, 15, 16, 17, 18, 19, 20, 21, 22, 23, 24, 25, 26, 27, 28, 29] (by decide +kernel) (by decide +kernel)
set_option maxRecDepth 20000 in
theorem gX5_tell_X5_goes : GoodIn wsX5_tell (wsV RX5 77 RX5 yX5_goes wsX5_goes) := goodIn_app (goodIn_of _ (by decide +kernel)) ggX5_tell_X5_goes
set_option maxRecDepth 20000 in
theorem ggX5_profitOf_X5_bidOf : GoodIn wsX5_profitOf wsX5_bidOf := goodIn_r _ [5, 6, 7, 8, 9, 4, 10, 11, 12, 13, 14, 15, 16, 17, 18, 19, 20, 21, 22, 23, 24, 25, 26, 27, 28, 29, 30, 31, 32] (by decide +kernel) (by decide +kernel)
set_option maxRecDepth 20000 in
theorem gX5_profitOf_X5_bidOf : GoodIn wsX5_profitOf (wsV RX5 94 RX5 yX5_bidOf wsX5_bidOf) := goodIn_app (goodIn_of _ (by decide +kernel)) ggX5_profitOf_X5_bidOf
set_option maxRecDepth 20000 in
theorem ggX5_profit_X5_isAuction : GoodIn wsX5_profit wsX5_isAuction := goodIn_r _ [4, 5, 6, 3, 7] (by decide +kernel) (by decide +kernel)
set_option maxRecDepth 20000 in
theorem gX5_profit_X5_isAuction : GoodIn wsX5_profit (va_wsS RX5 108 yX5_isAuction wsX5_isAuction) := goodIn_app (goodIn_of _ (by decide +kernel)) ggX5_profit_X5_isAuction
set_option maxRecDepth 20000 in
theorem ggX5_profit_X5_isValue : GoodIn wsX5_profit wsX5_isValue := goodIn_r _ [10, 5, 6, 3, 7] (by decide +kernel) (by decide +kernel)
set_option maxRecDepth 20000 in
theorem gX5_profit_X5_isValue : GoodIn wsX5_profit (va_wsS RX5 91 yX5_isValue wsX5_isValue) := goodIn_app (goodIn_of _ (by decide +kernel)) ggX5_profit_X5_isValue
set_option maxRecDepth 20000 in
theorem ggX5_profit_X5_isStrategy : GoodIn wsX5_profit wsX5_isStrategy := goodIn_r _ [14, 15, 5, 6, 3, 7, 42, 43, 44, 45, 46, 47, 48, 49, 50, 51, 52, 53, 54, 55] (by decide +kernel) (by decide +kernel)
set_option maxRecDepth 20000 in
theorem gX5_profit_X5_isStrategy : GoodIn wsX5_profit (wsV RX5 88 RX5 yX5_isStrategy wsX5_isStrategy) := goodIn_app (goodIn_of _ (by decide +kernel)) ggX5_profit_X5_isStrategy
set_option maxRecDepth 20000 in
theorem ggX5_profit_X5_goes : GoodIn wsX5_profit wsX5_goes := goodIn_r _ [19, 20, 42, 43, 44, 45, 46, 47, 48, 49, 50, 51, 52, 53, 54, 55] (by decide +kernel) (by decide +kernel)
set_option maxRecDepth 20000 in
theorem gX5_profit_X5_goes : GoodIn wsX5_profit (wsV RX5 77 RX5 yX5_goes wsX5_goes) := goodIn_app (goodIn_of _ (by decide +kernel)) ggX5_profit_X5_goes
set_option maxRecDepth 20000 in
theorem ggX5_profit_X5_profitOf : GoodIn wsX5_profit wsX5_profitOf := goodIn_r _ [24, 25, 26, 27, 3, 28, 29, 30, 31, 32, 33, 34, 35, 36, 37, 38, 39, 40, 41, 42, 43, 44, 45, 46, 47, 48, 49, 50, 51, 52, 53, 54, 55] (by decide +kernel) (by decide +kernel)
set_option maxRecDepth 20000 in
theorem gX5_profit_X5_profitOf : GoodIn wsX5_profit (wsV RX5 111 RX5 yX5_profitOf wsX5_profitOf) := goodIn_app (goodIn_of _ (by decide +kernel)) ggX5_profit_X5_profitOf
set_option maxRecDepth 20000 in
theorem ggX5_worthOf_X5_profitOf : GoodIn wsX5_worthOf wsX5_profitOf := goodIn_r _ [10, 11, 12, 13, 9, 14, 15, 16, 17, 18, 19, 20, 21, 22, 23, 24, 25, 26, 27, 28, 29, 30, 31, 32, 33, 34, 35, 36, 37, 38, 39, 40, 41] (by decide +kernel) (by decide +kernel)
set_option maxRecDepth 20000 in
theorem gX5_worthOf_X5_profitOf : GoodIn wsX5_worthOf (wsV RX5 111 RX5 yX5_profitOf wsX5_profitOf) := goodIn_app (goodIn_of _ (by decide +kernel)) ggX5_worthOf_X5_profitOf
set_option maxRecDepth 20000 in
theorem ggX5_worthIn_X5_isStrategy : GoodIn wsX5_worthIn wsX5_isStrategy := goodIn_r _ [6, 7, 8, 9, 5, 10, 47, 48, 49, 50, 51, 52, 53, 54, 55, 56, 57, 58, 59, 60] (by decide +kernel) (by decide +kernel)
set_option maxRecDepth 20000 in
theorem gX5_worthIn_X5_isStrategy : GoodIn wsX5_worthIn (wsV RX5 88 RX5 yX5_isStrategy wsX5_isStrategy) := goodIn_app (goodIn_of _ (by decide +kernel)) ggX5_worthIn_X5_isStrategy
set_option maxRecDepth 20000 in
theorem ggX5_worthIn_X5_isAuction : GoodIn wsX5_worthIn wsX5_isAuction := goodIn_r _ [13, 8, 9, 5, 10] (by decide +kernel) (by decide +kernel)
set_option maxRecDepth 20000 in
theorem gX5_worthIn_X5_isAuction : GoodIn wsX5_worthIn (va_wsS RX5 108 yX5_isAuction wsX5_isAuction) := goodIn_app (goodIn_of _ (by decide +kernel)) ggX5_worthIn_X5_isAuction
set_option maxRecDepth 20000 in
theorem ggX5_worthIn_X5_goes : GoodIn wsX5_worthIn wsX5_goes := goodIn_r _ [17, 18, 47, 48, 49, 50, 51, 52, 53, 54, 55, 56, 57, 58, 59, 60] (by decide +kernel) (by decide +kernel)
set_option maxRecDepth 20000 in
theorem gX5_worthIn_X5_goes : GoodIn wsX5_worthIn (wsV RX5 77 RX5 yX5_goes wsX5_goes) := goodIn_app (goodIn_of _ (by decide +kernel)) ggX5_worthIn_X5_goes
set_option maxRecDepth 20000 in
theorem ggX5_worthIn_X5_worthOf : GoodIn wsX5_worthIn wsX5_worthOf := goodIn_r _ [22, 7, 23, 1, 24, 25, 26, 27, 28, 5, 29, 30, 31, 32, 33, 34, 35, 36, 37, 38, 39, 40, 41, 42, 43, 44, 45, 46, 47, 48, 49, 50, 51, 52, 53, 54, 55, 56, 57, 58, 59, 60] (by decide +kernel) (by decide +kernel)
set_option maxRecDepth 20000 in
theorem gX5_worthIn_X5_worthOf : GoodIn wsX5_worthIn (wsV RX5 115 RX5 yX5_worthOf wsX5_worthOf) := goodIn_app (goodIn_of _ (by decide +kernel)) ggX5_worthIn_X5_worthOf
set_option maxRecDepth 20000 in
theorem ggX5_worth_X5_worthIn : GoodIn wsX5_worth wsX5_worthIn := goodIn_r _ [5, 6, 7, 8, 9, 4, 10, 11, 12, 13, 14, 15, 16, 17, 18, 19, 20, 21, 22, 23, 24, 25, 26, 27, 28, 29, 30, 31, 32, 33, 34, 35, 36, 37, 38, 39, 40, 41, 42, 43, 44, 45, 46, 47, 48, 49, 50, 51, 52, 53, 54, 55, 56, 57, 58, 59, 60, 61, 62, 63, 64] (by decide +kernel) (by decide +kernel)
set_option maxRecDepth 20000 in
theorem gX5_worth_X5_worthIn : GoodIn wsX5_worth (wsV RX5 118 RX5 yX5_worthIn wsX5_worthIn) := goodIn_app (goodIn_of _ (by decide +kernel)) ggX5_worth_X5_worthIn
set_option maxRecDepth 20000 in
theorem ggX5_worthByValues_X5_worthIn : GoodIn wsX5_worthByValues wsX5_worthIn := goodIn_r _ [5, 6, 7, 8, 9, 4, 10, 11, 12, 13, 14, 15, 16, 17, 18, 19, 20, 21, 22, 23, 24, 25, 26, 27, 28, 29, 30, 31, 32, 33, 34, 35, 36, 37, 38, 39, 40, 41, 42, 43, 44, 45, 46, 47, 48, 49, 50, 51, 52, 53, 54, 55, 56, 57, 58, 59, 60, 61, 62, 63, 64] (by decide +kernel) (by decide +kernel)
set_option maxRecDepth 20000 in
theorem gX5_worthByValues_X5_worthIn : GoodIn wsX5_worthByValues (wsV RX5 118 RX5 yX5_worthIn wsX5_worthIn) := goodIn_app (goodIn_of _ (by decide +kernel)) ggX5_worthByValues_X5_worthIn
set_option maxRecDepth 20000 in
theorem ggX5_laysWorths_X5_worthOf : GoodIn wsX5_laysWorths wsX5_worthOf := goodIn_r _ [8, 1, 9, 3, 10, 11, 12, 13, 14, 7, 15, 16, 17, 18, 19, 20, 21, 22, 23, 24, 25, 26, 27, 28, 29, 30, 31, 32, 33, 34, 35, 36, 37, 38, 39, 40, 41, 42, 43, 44, 45, 46] (by decide +kernel) (by decide +kernel)
set_option maxRecDepth 20000 in
theorem gX5_laysWorths_X5_worthOf : GoodIn wsX5_laysWorths (wsV RX5 115 RX5 yX5_worthOf wsX5_worthOf) := goodIn_app (goodIn_of _ (by decide +kernel)) ggX5_laysWorths_X5_worthOf
set_option maxRecDepth 20000 in
theorem ggX5_best_X5_isAuction : GoodIn wsX5_best wsX5_isAuction := goodIn_r _ [4, 5, 6, 3, 7] (by decide +kernel) (by decide +kernel)
set_option maxRecDepth 20000 in
theorem gX5_best_X5_isAuction : GoodIn wsX5_best (va_wsS RX5 108 yX5_isAuction wsX5_isAuction) := goodIn_app (goodIn_of _ (by decide +kernel)) ggX5_best_X5_isAuction
set_option maxRecDepth 20000 in
theorem ggX5_best_X5_goes : GoodIn wsX5_best wsX5_goes := goodIn_r _ [11, 12, 52, 53, 54, 55, 56, 57, 58, 59, 60, 61, 62, 63, 64, 65] (by decide +kernel) (by decide +kernel)
set_option maxRecDepth 20000 in
theorem gX5_best_X5_goes : GoodIn wsX5_best (wsV RX5 77 RX5 yX5_goes wsX5_goes) := goodIn_app (goodIn_of _ (by decide +kernel)) ggX5_best_X5_goes
set_option maxRecDepth 20000 in
theorem ggX5_best_X5_laysWorths : GoodIn wsX5_best wsX5_laysWorths := goodIn_r _ [16, 17, 18, 19, 20, 21, 22, 3, 23, 24, 25, 26, 27, 28, 29, 30, 31, 32, 33, 34, 35, 36, 37, 38, 39, 40, 41, 42, 43, 44, 45, 46, 47, 52, 53, 54, 55, 56, 57, 58, 59, 60, 61, 62, 63, 64, 65] (by decide +kernel) (by decide +kernel)
set_option maxRecDepth 20000 in
theorem gX5_best_X5_laysWorths : GoodIn wsX5_best (wsV RX5 121 RX5 yX5_laysWorths wsX5_laysWorths) := goodIn_app (goodIn_of _ (by decide +kernel)) ggX5_best_X5_laysWorths
set_option maxRecDepth 20000 in
theorem ggX5_best_X5_greatest : GoodIn wsX5_best wsX5_greatest := goodIn_r _ [51, 17, 19, 18, 52, 53, 54, 55, 56, 57, 58, 59, 60, 61, 62, 63, 64, 65] (by decide +kernel) (by decide +kernel)
set_option maxRecDepth 20000 in
theorem gX5_best_X5_greatest : GoodIn wsX5_best (wsV RX5 125 RX5 yX5_greatest wsX5_greatest) := goodIn_app (goodIn_of _ (by decide +kernel)) ggX5_best_X5_greatest
set_option maxRecDepth 20000 in
theorem ggX5_evolve_X5_isAuction : GoodIn wsX5_evolve wsX5_isAuction := goodIn_r _ [6, 7, 8, 5, 9] (by decide +kernel) (by decide +kernel)
set_option maxRecDepth 20000 in
theorem gX5_evolve_X5_isAuction : GoodIn wsX5_evolve (va_wsS RX5 108 yX5_isAuction wsX5_isAuction) := goodIn_app (goodIn_of _ (by decide +kernel)) ggX5_evolve_X5_isAuction
set_option maxRecDepth 20000 in
theorem ggX5_evolve_X5_pooled : GoodIn wsX5_evolve wsX5_pooled := goodIn_r _ [13, 1, 2, 86, 87, 88, 89, 90, 91, 92, 93, 94, 95, 96, 97, 98, 99] (by decide +kernel) (by decide +kernel)
set_option maxRecDepth 20000 in
theorem gX5_evolve_X5_pooled : GoodIn wsX5_evolve (wsV RX5 101 RX5 yX5_pooled wsX5_pooled) := goodIn_app (goodIn_of _ (by decide +kernel)) ggX5_evolve_X5_pooled
set_option maxRecDepth 20000 in
theorem ggX5_evolve_X5_goes : GoodIn wsX5_evolve wsX5_goes := goodIn_r _ [17, 18, 86, 87, 88, 89, 90, 91, 92, 93, 94, 95, 96, 97, 98, 99] (by decide +kernel) (by decide +kernel)
set_option maxRecDepth 20000 in
theorem gX5_evolve_X5_goes : GoodIn wsX5_evolve (wsV RX5 77 RX5 yX5_goes wsX5_goes) := goodIn_app (goodIn_of _ (by decide +kernel)) ggX5_evolve_X5_goes
set_option maxRecDepth 20000 in
theorem ggX5_evolve_X5_laysWorths : GoodIn wsX5_evolve wsX5_laysWorths := goodIn_r _ [22, 1, 23, 2, 24, 25, 26, 5, 27, 28, 29, 30, 31, 32, 33, 34, 35, 36, 37, 38, 39, 40, 41, 42, 43, 44, 45, 46, 47, 48, 49, 50, 51, 86, 87, 88, 89, 90, 91, 92, 93, 94, 95, 96, 97, 98, 99] (by decide +kernel) (by decide +kernel)
set_option maxRecDepth 20000 in
theorem gX5_evolve_X5_laysWorths : GoodIn wsX5_evolve (wsV RX5 121 RX5 yX5_laysWorths wsX5_laysWorths) := goodIn_app (goodIn_of _ (by decide +kernel)) ggX5_evolve_X5_laysWorths
set_option maxRecDepth 20000 in
theorem ggX5_evolve_X5_weakest : GoodIn wsX5_evolve wsX5_weakest := goodIn_r _ [55, 1, 2, 23, 86, 87, 88, 89, 90, 91, 92, 93, 94, 95, 96, 97, 98, 99] (by decide +kernel) (by decide +kernel)
set_option maxRecDepth 20000 in
theorem gX5_evolve_X5_weakest : GoodIn wsX5_evolve (wsV RX5 128 RX5 yX5_weakest wsX5_weakest) := goodIn_app (goodIn_of _ (by decide +kernel)) ggX5_evolve_X5_weakest
set_option maxRecDepth 20000 in
theorem ggX5_evolve_X5_greatest : GoodIn wsX5_evolve wsX5_greatest := goodIn_r _ [59, 1, 2, 23, 86, 87, 88, 89, 90, 91, 92, 93, 94, 95, 96, 97, 98, 99] (by decide +kernel) (by decide +kernel)
set_option maxRecDepth 20000 in
theorem gX5_evolve_X5_greatest : GoodIn wsX5_evolve (wsV RX5 125 RX5 yX5_greatest wsX5_greatest) := goodIn_app (goodIn_of _ (by decide +kernel)) ggX5_evolve_X5_greatest
set_option maxRecDepth 20000 in
theorem ggX5_evolve_X5_crosses : GoodIn wsX5_evolve wsX5_crosses := goodIn_r _ [63, 45, 46, 1, 86, 87, 88, 89, 90, 91, 92, 93, 94, 95, 96, 97, 98, 99] (by decide +kernel) (by decide +kernel)
set_option maxRecDepth 20000 in
theorem gX5_evolve_X5_crosses : GoodIn wsX5_evolve (wsV RX5 131 RX5 yX5_crosses wsX5_crosses) := goodIn_app (goodIn_of _ (by decide +kernel)) ggX5_evolve_X5_crosses
set_option maxRecDepth 20000 in
theorem ggX5_evolve_X5_found : GoodIn wsX5_evolve wsX5_found := goodIn_r _ [67, 1, 68, 69, 70, 5, 71, 45, 46, 86, 87, 88, 89, 90, 91, 92, 93, 94, 95, 96, 97, 98, 99] (by decide +kernel) (by decide +kernel)
set_option maxRecDepth 20000 in
theorem gX5_evolve_X5_found : GoodIn wsX5_evolve (wsV RX5 80 RX5 yX5_found wsX5_found) := goodIn_app (goodIn_of _ (by decide +kernel)) ggX5_evolve_X5_found
set_option maxRecDepth 20000 in
theorem ggX5_evolve_X5_runs : GoodIn wsX5_evolve wsX5_runs := goodIn_r _ [43, 44, 45, 46, 39, 47, 48, 5, 49, 50, 51, 86, 87, 88, 89, 90, 91, 92, 93, 94, 95, 96, 97, 98, 99] (by decide +kernel) (by decide +kernel)
set_option maxRecDepth 20000 in
theorem gX5_evolve_X5_runs : GoodIn wsX5_evolve (wsV RX5 63 RX5 yX5_runs wsX5_runs) := goodIn_app (goodIn_of _ (by decide +kernel)) ggX5_evolve_X5_runs
set_option maxRecDepth 20000 in
theorem ggX5_evolve_X5_hasForbidden : GoodIn wsX5_evolve wsX5_hasForbidden := goodIn_r _ [75, 76, 77, 78, 79, 5, 80, 45, 46, 86, 87, 88, 89, 90, 91, 92, 93, 94, 95, 96, 97, 98, 99] (by decide +kernel) (by decide +kernel)
set_option maxRecDepth 20000 in
theorem gX5_evolve_X5_hasForbidden : GoodIn wsX5_evolve (wsV RX5 98 RX5 yX5_hasForbidden wsX5_hasForbidden) := goodIn_app (goodIn_of _ (by decide +kernel)) ggX5_evolve_X5_hasForbidden
set_option maxRecDepth 20000 in
theorem ggX5_evolve_X5_keeps : GoodIn wsX5_evolve wsX5_keeps := goodIn_r _ [84, 45, 1, 46, 85, 86, 87, 88, 89, 90, 91, 92, 93, 94, 95, 96, 97, 98, 99] (by decide +kernel) (by decide +kernel)
set_option maxRecDepth 20000 in
theorem gX5_evolve_X5_keeps : GoodIn wsX5_evolve (wsV RX5 84 RX5 yX5_keeps wsX5_keeps) := goodIn_app (goodIn_of _ (by decide +kernel)) ggX5_evolve_X5_keeps
