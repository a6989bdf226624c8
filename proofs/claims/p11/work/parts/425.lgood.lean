set_option maxRecDepth 20000 in
theorem ggL_led_X7_led : GoodIn wsL_led wsX7_led := goodIn_ca (goodIn_r _ [6, 7, 8, 9, 10, 11, 12, 13, 14, 15, 16, 17, 18, 19, 20, 21, 22, 23, 24, 25, 26, 27, 28, 29, 30, 31, 32, 33, 34, 35, 36, 37, 38, 39, 40, 41, 42, 43, 44, 45] (by decide +kernel) (by decide +kernel)) (goodIn_sub (fun _ h => List.mem_cons_of_mem _ (List.mem_append_right _ h)) (by decide +kernel))
set_option maxRecDepth 20000 in
theorem gL_led_X7_led : GoodIn wsL_led (wsV RL 7 RX7 yX7_led wsX7_led) := goodIn_app (goodIn_of _ (by decide +kernel)) ggL_led_X7_led
