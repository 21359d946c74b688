set_option maxRecDepth 20000 in
theorem gL_law_X4_init : GoodIn wsL_law (wsX4_init) := ggL_law_X4_init
set_option maxRecDepth 20000 in
theorem gL_law_X5_init : GoodIn wsL_law (wsX5_init) := ggL_law_X5_init
set_option maxRecDepth 20000 in
theorem gL_law_X4_letter : GoodIn wsL_law (wsV RL 13 RX4 yX4_letter wsX4_letter) := goodIn_app (goodIn_sub (xcons (xr4 _ (xm 9 rfl)) (xcons (xr4 _ (xm 10 rfl)) (xcons (xr4 _ (xm 11 rfl)) (xcons (xr1 _ (xm 2 rfl)) xnil)))) (by decide +kernel)) ggL_law_X4_letter
set_option maxRecDepth 20000 in
theorem gL_law_X5_letter : GoodIn wsL_law (wsV RL 17 RX5 yX5_letter wsX5_letter) := goodIn_app (goodIn_sub (xcons (xr4 _ (xm 22 rfl)) (xcons (xr4 _ (xm 23 rfl)) (xcons (xr5 _ (xm 0 rfl)) (xcons (xr1 _ (xm 5 rfl)) xnil)))) (by decide +kernel)) ggL_law_X5_letter
set_option maxRecDepth 20000 in
theorem gL_law_X4_road : GoodIn wsL_law (wsV RL 18 RX4 yX4_road wsX4_road) := goodIn_app (goodIn_sub (xcons (xr5 _ (xm 7 rfl)) (xcons (xr5 _ (xm 8 rfl)) (xcons (xr5 _ (xm 9 rfl)) (xcons (xr1 _ (xm 2 rfl)) xnil)))) (by decide +kernel)) ggL_law_X4_road
set_option maxRecDepth 20000 in
theorem gL_law_X5_road : GoodIn wsL_law (wsV RL 22 RX5 yX5_road wsX5_road) := goodIn_app (goodIn_sub (xcons (xr13 _ (xm 6 rfl)) (xcons (xr13 _ (xm 7 rfl)) (xcons (xr13 _ (xm 8 rfl)) (xcons (xr1 _ (xm 5 rfl)) xnil)))) (by decide +kernel)) ggL_law_X5_road
set_option maxRecDepth 20000 in
theorem gL_law_X4_stop : GoodIn wsL_law (wsV RL 23 RX4 yX4_stop wsX4_stop) := goodIn_app (goodIn_sub (xcons (xr14 _ (xm 17 rfl)) (xcons (xr14 _ (xm 18 rfl)) (xcons (xr14 _ (xm 19 rfl)) (xcons (xr1 _ (xm 2 rfl)) xnil)))) (by decide +kernel)) ggL_law_X4_stop
set_option maxRecDepth 20000 in
theorem gL_law_X5_stop : GoodIn wsL_law (wsV RL 27 RX5 yX5_stop wsX5_stop) := goodIn_app (goodIn_sub (xcons (xr15 _ (xm 15 rfl)) (xcons (xr15 _ (xm 16 rfl)) (xcons (xr15 _ (xm 17 rfl)) (xcons (xr1 _ (xm 5 rfl)) xnil)))) (by decide +kernel)) ggL_law_X5_stop
set_option maxRecDepth 20000 in
theorem gL_law_X4_line : GoodIn wsL_law (wsV RL 28 RX4 yX4_line wsX4_line) := goodIn_app (goodIn_sub (xcons (xr16 _ (xm 10 rfl)) (xcons (xr16 _ (xm 11 rfl)) (xcons (xr16 _ (xm 12 rfl)) (xcons (xr1 _ (xm 2 rfl)) xnil)))) (by decide +kernel)) ggL_law_X4_line
set_option maxRecDepth 20000 in
theorem gL_law_X5_line : GoodIn wsL_law (wsV RL 31 RX5 yX5_line wsX5_line) := goodIn_app (goodIn_sub (xcons (xr17 _ (xm 8 rfl)) (xcons (xr17 _ (xm 9 rfl)) (xcons (xr17 _ (xm 10 rfl)) (xcons (xr1 _ (xm 5 rfl)) xnil)))) (by decide +kernel)) ggL_law_X5_line
set_option maxRecDepth 20000 in
theorem gL_law_X4_chance : GoodIn wsL_law (wsV RL 32 RX4 yX4_chance wsX4_chance) := goodIn_app (goodIn_sub (xcons (xr18 _ (xm 12 rfl)) (xcons (xr18 _ (xm 13 rfl)) (xcons (xr18 _ (xm 14 rfl)) (xcons (xr1 _ (xm 2 rfl)) xnil)))) (by decide +kernel)) ggL_law_X4_chance
set_option maxRecDepth 20000 in
theorem gL_law_X5_chance : GoodIn wsL_law (wsV RL 35 RX5 yX5_chance wsX5_chance) := goodIn_app (goodIn_sub (xcons (xr18 _ (xm 20 rfl)) (xcons (xr18 _ (xm 21 rfl)) (xcons (xr18 _ (xm 22 rfl)) (xcons (xr1 _ (xm 5 rfl)) xnil)))) (by decide +kernel)) ggL_law_X5_chance
set_option maxRecDepth 20000 in
theorem gL_law_X4_there : GoodIn wsL_law (wsV RL 36 RX4 yX4_there wsX4_there) := goodIn_app (goodIn_sub (xcons (xr19 _ (xm 0 rfl)) (xcons (xr19 _ (xm 1 rfl)) (xcons (xr19 _ (xm 2 rfl)) (xcons (xr1 _ (xm 2 rfl)) xnil)))) (by decide +kernel)) ggL_law_X4_there
set_option maxRecDepth 20000 in
theorem gL_law_X5_there : GoodIn wsL_law (wsV RL 39 RX5 yX5_there wsX5_there) := goodIn_app (goodIn_sub (xcons (xr19 _ (xm 8 rfl)) (xcons (xr19 _ (xm 9 rfl)) (xcons (xr19 _ (xm 10 rfl)) (xcons (xr1 _ (xm 5 rfl)) xnil)))) (by decide +kernel)) ggL_law_X5_there
set_option maxRecDepth 20000 in
theorem gL_law_X4_set : GoodIn wsL_law (wsV RL 40 RX4 yX4_set wsX4_set) := goodIn_app (goodIn_sub (xcons (xr19 _ (xm 16 rfl)) (xcons (xr19 _ (xm 17 rfl)) (xcons (xr19 _ (xm 18 rfl)) (xcons (xr1 _ (xm 2 rfl)) xnil)))) (by decide +kernel)) ggL_law_X4_set
set_option maxRecDepth 20000 in
theorem gL_law_X5_set : GoodIn wsL_law (wsV RL 43 RX5 yX5_set wsX5_set) := goodIn_app (goodIn_sub (xcons (xr20 _ (xm 3 rfl)) (xcons (xr20 _ (xm 4 rfl)) (xcons (xr20 _ (xm 5 rfl)) (xcons (xr1 _ (xm 5 rfl)) xnil)))) (by decide +kernel)) ggL_law_X5_set
set_option maxRecDepth 20000 in
theorem gL_law_X4_comes : GoodIn wsL_law (wsV RL 44 RX4 yX4_comes wsX4_comes) := goodIn_app (goodIn_sub (xcons (xr20 _ (xm 7 rfl)) (xcons (xr20 _ (xm 8 rfl)) (xcons (xr20 _ (xm 9 rfl)) (xcons (xr1 _ (xm 2 rfl)) xnil)))) (by decide +kernel)) ggL_law_X4_comes
set_option maxRecDepth 20000 in
theorem gL_law_X5_comes : GoodIn wsL_law (wsV RL 48 RX5 yX5_comes wsX5_comes) := goodIn_app (goodIn_sub (xcons (xr20 _ (xm 23 rfl)) (xcons (xr21 _ (xm 0 rfl)) (xcons (xr21 _ (xm 1 rfl)) (xcons (xr1 _ (xm 5 rfl)) xnil)))) (by decide +kernel)) ggL_law_X5_comes
set_option maxRecDepth 20000 in
theorem gL_law_X4_homeAt : GoodIn wsL_law (wsV RL 49 RX4 yX4_homeAt wsX4_homeAt) := goodIn_app (goodIn_sub (xcons (xr21 _ (xm 14 rfl)) (xcons (xr21 _ (xm 15 rfl)) (xcons (xr21 _ (xm 16 rfl)) (xcons (xr1 _ (xm 2 rfl)) xnil)))) (by decide +kernel)) ggL_law_X4_homeAt
set_option maxRecDepth 20000 in
theorem gL_law_X5_homeAt : GoodIn wsL_law (wsV RL 53 RX5 yX5_homeAt wsX5_homeAt) := goodIn_app (goodIn_sub (xcons (xr22 _ (xm 13 rfl)) (xcons (xr22 _ (xm 14 rfl)) (xcons (xr22 _ (xm 15 rfl)) (xcons (xr1 _ (xm 5 rfl)) xnil)))) (by decide +kernel)) ggL_law_X5_homeAt
set_option maxRecDepth 20000 in
theorem gL_law_X4_walked : GoodIn wsL_law (wsV RL 54 RX4 yX4_walked wsX4_walked) := goodIn_app (goodIn_sub (xcons (xr23 _ (xm 1 rfl)) (xcons (xr23 _ (xm 2 rfl)) (xcons (xr23 _ (xm 3 rfl)) (xcons (xr1 _ (xm 2 rfl)) xnil)))) (by decide +kernel)) ggL_law_X4_walked
set_option maxRecDepth 20000 in
theorem gL_law_X5_walked : GoodIn wsL_law (wsV RL 57 RX5 yX5_walked wsX5_walked) := goodIn_app (goodIn_sub (xcons (xr23 _ (xm 5 rfl)) (xcons (xr23 _ (xm 6 rfl)) (xcons (xr23 _ (xm 7 rfl)) (xcons (xr1 _ (xm 5 rfl)) xnil)))) (by decide +kernel)) ggL_law_X5_walked
set_option maxRecDepth 20000 in
theorem gL_law_X4_mean : GoodIn wsL_law (wsV RL 58 RX4 yX4_mean wsX4_mean) := goodIn_app (goodIn_sub (xcons (xr23 _ (xm 9 rfl)) (xcons (xr23 _ (xm 10 rfl)) (xcons (xr23 _ (xm 11 rfl)) (xcons (xr1 _ (xm 2 rfl)) xnil)))) (by decide +kernel)) ggL_law_X4_mean
set_option maxRecDepth 20000 in
theorem gL_law_X5_mean : GoodIn wsL_law (wsV RL 61 RX5 yX5_mean wsX5_mean) := goodIn_app (goodIn_sub (xcons (xr23 _ (xm 17 rfl)) (xcons (xr23 _ (xm 18 rfl)) (xcons (xr23 _ (xm 19 rfl)) (xcons (xr1 _ (xm 5 rfl)) xnil)))) (by decide +kernel)) ggL_law_X5_mean
set_option maxRecDepth 20000 in
theorem gL_law_X4_sooner : GoodIn wsL_law (wsV RL 62 RX4 yX4_sooner wsX4_sooner) := goodIn_app (goodIn_sub (xcons (xr24 _ (xm 1 rfl)) (xcons (xr24 _ (xm 2 rfl)) (xcons (xr24 _ (xm 3 rfl)) (xcons (xr1 _ (xm 2 rfl)) xnil)))) (by decide +kernel)) ggL_law_X4_sooner
set_option maxRecDepth 20000 in
theorem gL_law_X5_sooner : GoodIn wsL_law (wsV RL 66 RX5 yX5_sooner wsX5_sooner) := goodIn_app (goodIn_sub (xcons (xr24 _ (xm 5 rfl)) (xcons (xr24 _ (xm 6 rfl)) (xcons (xr24 _ (xm 7 rfl)) (xcons (xr1 _ (xm 5 rfl)) xnil)))) (by decide +kernel)) ggL_law_X5_sooner
set_option maxRecDepth 20000 in
theorem gL_law_X4_best : GoodIn wsL_law (wsV RL 67 RX4 yX4_best wsX4_best) := goodIn_app (goodIn_sub (xcons (xr24 _ (xm 9 rfl)) (xcons (xr24 _ (xm 10 rfl)) (xcons (xr24 _ (xm 11 rfl)) (xcons (xr1 _ (xm 2 rfl)) xnil)))) (by decide +kernel)) ggL_law_X4_best
set_option maxRecDepth 20000 in
theorem gL_law_X5_best : GoodIn wsL_law (wsV RL 71 RX5 yX5_best wsX5_best) := goodIn_app (goodIn_sub (xcons (xr26 _ (xm 22 rfl)) (xcons (xr26 _ (xm 23 rfl)) (xcons (xr27 _ (xm 0 rfl)) (xcons (xr1 _ (xm 5 rfl)) xnil)))) (by decide +kernel)) ggL_law_X5_best
set_option maxRecDepth 20000 in
theorem gL_law_X4_bestMean : GoodIn wsL_law (wsV RL 72 RX4 yX4_bestMean wsX4_bestMean) := goodIn_app (goodIn_sub (xcons (xr28 _ (xm 5 rfl)) (xcons (xr28 _ (xm 6 rfl)) (xcons (xr28 _ (xm 7 rfl)) (xcons (xr1 _ (xm 2 rfl)) xnil)))) (by decide +kernel)) ggL_law_X4_bestMean
set_option maxRecDepth 20000 in
theorem gL_law_X5_bestMean : GoodIn wsL_law (wsV RL 75 RX5 yX5_bestMean wsX5_bestMean) := goodIn_app (goodIn_sub (xcons (xr28 _ (xm 14 rfl)) (xcons (xr28 _ (xm 15 rfl)) (xcons (xr28 _ (xm 16 rfl)) (xcons (xr1 _ (xm 5 rfl)) xnil)))) (by decide +kernel)) ggL_law_X5_bestMean
set_option maxRecDepth 20000 in
theorem gL_law_X4_patience : GoodIn wsL_law (wsV RL 76 RX4 yX4_patience wsX4_patience) := goodIn_app (goodIn_sub (xcons (xr28 _ (xm 18 rfl)) (xcons (xr28 _ (xm 19 rfl)) (xcons (xr28 _ (xm 20 rfl)) (xcons (xr1 _ (xm 2 rfl)) xnil)))) (by decide +kernel)) ggL_law_X4_patience
set_option maxRecDepth 20000 in
theorem gL_law_X5_patience : GoodIn wsL_law (wsV RL 79 RX5 yX5_patience wsX5_patience) := goodIn_app (goodIn_sub (xcons (xr28 _ (xm 22 rfl)) (xcons (xr28 _ (xm 23 rfl)) (xcons (xr29 _ (xm 0 rfl)) (xcons (xr1 _ (xm 5 rfl)) xnil)))) (by decide +kernel)) ggL_law_X5_patience
set_option maxRecDepth 20000 in
theorem gL_law_X4_news : GoodIn wsL_law (wsV RL 80 RX4 yX4_news wsX4_news) := goodIn_app (goodIn_sub (xcons (xr29 _ (xm 2 rfl)) (xcons (xr29 _ (xm 3 rfl)) (xcons (xr29 _ (xm 4 rfl)) (xcons (xr1 _ (xm 2 rfl)) xnil)))) (by decide +kernel)) ggL_law_X4_news
set_option maxRecDepth 20000 in
theorem gL_law_X5_news : GoodIn wsL_law (wsV RL 84 RX5 yX5_news wsX5_news) := goodIn_app (goodIn_sub (xcons (xr29 _ (xm 12 rfl)) (xcons (xr29 _ (xm 13 rfl)) (xcons (xr29 _ (xm 14 rfl)) (xcons (xr1 _ (xm 5 rfl)) xnil)))) (by decide +kernel)) ggL_law_X5_news
set_option maxRecDepth 20000 in
theorem gL_law_X4_both : GoodIn wsL_law (wsV RL 85 RX4 yX4_both wsX4_both) := goodIn_app (goodIn_sub (xcons (xr29 _ (xm 16 rfl)) (xcons (xr29 _ (xm 17 rfl)) (xcons (xr29 _ (xm 18 rfl)) (xcons (xr1 _ (xm 2 rfl)) xnil)))) (by decide +kernel)) ggL_law_X4_both
set_option maxRecDepth 20000 in
theorem gL_law_X5_both : GoodIn wsL_law (wsV RL 89 RX5 yX5_both wsX5_both) := goodIn_app (goodIn_sub (xcons (xr30 _ (xm 12 rfl)) (xcons (xr30 _ (xm 13 rfl)) (xcons (xr30 _ (xm 14 rfl)) (xcons (xr1 _ (xm 5 rfl)) xnil)))) (by decide +kernel)) ggL_law_X5_both
set_option maxRecDepth 20000 in
theorem gL_law_X4_letGo : GoodIn wsL_law (wsV RL 90 RX4 yX4_letGo wsX4_letGo) := goodIn_app (goodIn_sub (xcons (xr30 _ (xm 20 rfl)) (xcons (xr30 _ (xm 21 rfl)) (xcons (xr30 _ (xm 22 rfl)) (xcons (xr1 _ (xm 2 rfl)) xnil)))) (by decide +kernel)) ggL_law_X4_letGo
set_option maxRecDepth 20000 in
theorem gL_law_X5_letGo : GoodIn wsL_law (wsV RL 93 RX5 yX5_letGo wsX5_letGo) := goodIn_app (goodIn_sub (xcons (xr31 _ (xm 0 rfl)) (xcons (xr31 _ (xm 1 rfl)) (xcons (xr31 _ (xm 2 rfl)) (xcons (xr1 _ (xm 5 rfl)) xnil)))) (by decide +kernel)) ggL_law_X5_letGo
set_option maxRecDepth 20000 in
theorem gL_law_X4_letMean : GoodIn wsL_law (wsV RL 94 RX4 yX4_letMean wsX4_letMean) := goodIn_app (goodIn_sub (xcons (xr31 _ (xm 4 rfl)) (xcons (xr31 _ (xm 5 rfl)) (xcons (xr31 _ (xm 6 rfl)) (xcons (xr1 _ (xm 2 rfl)) xnil)))) (by decide +kernel)) ggL_law_X4_letMean
set_option maxRecDepth 20000 in
theorem gL_law_X5_letMean : GoodIn wsL_law (wsV RL 97 RX5 yX5_letMean wsX5_letMean) := goodIn_app (goodIn_sub (xcons (xr31 _ (xm 8 rfl)) (xcons (xr31 _ (xm 9 rfl)) (xcons (xr31 _ (xm 10 rfl)) (xcons (xr1 _ (xm 5 rfl)) xnil)))) (by decide +kernel)) ggL_law_X5_letMean
set_option maxRecDepth 20000 in
theorem gL_law_X4_back : GoodIn wsL_law (wsV RL 98 RX4 yX4_back wsX4_back) := goodIn_app (goodIn_sub (xcons (xr31 _ (xm 12 rfl)) (xcons (xr31 _ (xm 13 rfl)) (xcons (xr31 _ (xm 14 rfl)) (xcons (xr1 _ (xm 2 rfl)) xnil)))) (by decide +kernel)) ggL_law_X4_back
set_option maxRecDepth 20000 in
theorem gL_law_X5_back : GoodIn wsL_law (wsV RL 101 RX5 yX5_back wsX5_back) := goodIn_app (goodIn_sub (xcons (xr31 _ (xm 17 rfl)) (xcons (xr31 _ (xm 18 rfl)) (xcons (xr31 _ (xm 19 rfl)) (xcons (xr1 _ (xm 5 rfl)) xnil)))) (by decide +kernel)) ggL_law_X5_back
set_option maxRecDepth 20000 in
theorem gL_law_X4_gone : GoodIn wsL_law (wsV RL 102 RX4 yX4_gone wsX4_gone) := goodIn_app (goodIn_sub (xcons (xr31 _ (xm 21 rfl)) (xcons (xr31 _ (xm 22 rfl)) (xcons (xr31 _ (xm 23 rfl)) (xcons (xr1 _ (xm 2 rfl)) xnil)))) (by decide +kernel)) ggL_law_X4_gone
set_option maxRecDepth 20000 in
theorem gL_law_X5_gone : GoodIn wsL_law (wsV RL 105 RX5 yX5_gone wsX5_gone) := goodIn_app (goodIn_sub (xcons (xr32 _ (xm 5 rfl)) (xcons (xr32 _ (xm 6 rfl)) (xcons (xr32 _ (xm 7 rfl)) (xcons (xr1 _ (xm 5 rfl)) xnil)))) (by decide +kernel)) ggL_law_X5_gone
set_option maxRecDepth 20000 in
theorem gL_law_X4_stood : GoodIn wsL_law (wsV RL 106 RX4 yX4_stood wsX4_stood) := goodIn_app (goodIn_sub (xcons (xr32 _ (xm 13 rfl)) (xcons (xr32 _ (xm 14 rfl)) (xcons (xr32 _ (xm 15 rfl)) (xcons (xr1 _ (xm 2 rfl)) xnil)))) (by decide +kernel)) ggL_law_X4_stood
set_option maxRecDepth 20000 in
theorem gL_law_X5_stood : GoodIn wsL_law (wsV RL 109 RX5 yX5_stood wsX5_stood) := goodIn_app (goodIn_sub (xcons (xr32 _ (xm 17 rfl)) (xcons (xr32 _ (xm 18 rfl)) (xcons (xr32 _ (xm 19 rfl)) (xcons (xr1 _ (xm 5 rfl)) xnil)))) (by decide +kernel)) ggL_law_X5_stood
set_option maxRecDepth 20000 in
theorem gL_law_X4_others : GoodIn wsL_law (wsV RL 110 RX4 yX4_others wsX4_others) := goodIn_app (goodIn_sub (xcons (xr32 _ (xm 21 rfl)) (xcons (xr32 _ (xm 22 rfl)) (xcons (xr32 _ (xm 23 rfl)) (xcons (xr1 _ (xm 2 rfl)) xnil)))) (by decide +kernel)) ggL_law_X4_others
set_option maxRecDepth 20000 in
theorem gL_law_X5_others : GoodIn wsL_law (wsV RL 113 RX5 yX5_others wsX5_others) := goodIn_app (goodIn_sub (xcons (xr33 _ (xm 4 rfl)) (xcons (xr33 _ (xm 5 rfl)) (xcons (xr33 _ (xm 6 rfl)) (xcons (xr1 _ (xm 5 rfl)) xnil)))) (by decide +kernel)) ggL_law_X5_others
set_option maxRecDepth 20000 in
theorem gL_law_X4_rules : GoodIn wsL_law (wsV RL 114 RX4 yX4_rules wsX4_rules) := goodIn_app (goodIn_sub (xcons (xr33 _ (xm 8 rfl)) (xcons (xr33 _ (xm 9 rfl)) (xcons (xr33 _ (xm 10 rfl)) (xcons (xr1 _ (xm 2 rfl)) xnil)))) (by decide +kernel)) ggL_law_X4_rules
set_option maxRecDepth 20000 in
theorem gL_law_X5_rules : GoodIn wsL_law (wsV RL 117 RX5 yX5_rules wsX5_rules) := goodIn_app (goodIn_sub (xcons (xr33 _ (xm 12 rfl)) (xcons (xr33 _ (xm 13 rfl)) (xcons (xr33 _ (xm 14 rfl)) (xcons (xr1 _ (xm 5 rfl)) xnil)))) (by decide +kernel)) ggL_law_X5_rules
set_option maxRecDepth 20000 in
theorem gL_law_X4_row : GoodIn wsL_law (wsV RL 118 RX4 yX4_row wsX4_row) := goodIn_app (goodIn_sub (xcons (xr33 _ (xm 16 rfl)) (xcons (xr33 _ (xm 17 rfl)) (xcons (xr33 _ (xm 18 rfl)) (xcons (xr1 _ (xm 2 rfl)) xnil)))) (by decide +kernel)) ggL_law_X4_row
set_option maxRecDepth 20000 in
theorem gL_law_X5_row : GoodIn wsL_law (wsV RL 121 RX5 yX5_row wsX5_row) := goodIn_app (goodIn_sub (xcons (xr33 _ (xm 21 rfl)) (xcons (xr33 _ (xm 22 rfl)) (xcons (xr33 _ (xm 23 rfl)) (xcons (xr1 _ (xm 5 rfl)) xnil)))) (by decide +kernel)) ggL_law_X5_row
set_option maxRecDepth 20000 in
theorem gL_law_X4_judge : GoodIn wsL_law (wsV RL 122 RX4 yX4_judge wsX4_judge) := goodIn_app (goodIn_sub (xcons (xr34 _ (xm 2 rfl)) (xcons (xr34 _ (xm 3 rfl)) (xcons (xr34 _ (xm 4 rfl)) (xcons (xr1 _ (xm 2 rfl)) xnil)))) (by decide +kernel)) ggL_law_X4_judge
set_option maxRecDepth 20000 in
theorem gL_law_X5_judge : GoodIn wsL_law (wsV RL 125 RX5 yX5_judge wsX5_judge) := goodIn_app (goodIn_sub (xcons (xr34 _ (xm 6 rfl)) (xcons (xr34 _ (xm 7 rfl)) (xcons (xr34 _ (xm 8 rfl)) (xcons (xr1 _ (xm 5 rfl)) xnil)))) (by decide +kernel)) ggL_law_X5_judge
set_option maxRecDepth 20000 in
theorem gL_law_X4_lots : GoodIn wsL_law (wsV RL 126 RX4 yX4_lots wsX4_lots) := goodIn_app (goodIn_sub (xcons (xr34 _ (xm 10 rfl)) (xcons (xr34 _ (xm 11 rfl)) (xcons (xr34 _ (xm 12 rfl)) (xcons (xr1 _ (xm 2 rfl)) xnil)))) (by decide +kernel)) ggL_law_X4_lots
set_option maxRecDepth 20000 in
theorem gL_law_X5_lots : GoodIn wsL_law (wsV RL 129 RX5 yX5_lots wsX5_lots) := goodIn_app (goodIn_sub (xcons (xr34 _ (xm 22 rfl)) (xcons (xr34 _ (xm 23 rfl)) (xcons (xr35 _ (xm 0 rfl)) (xcons (xr1 _ (xm 5 rfl)) xnil)))) (by decide +kernel)) ggL_law_X5_lots
set_option maxRecDepth 20000 in
theorem gL_law_X4_image : GoodIn wsL_law (wsV RL 130 RX4 yX4_image wsX4_image) := goodIn_app (goodIn_sub (xcons (xr35 _ (xm 5 rfl)) (xcons (xr35 _ (xm 6 rfl)) (xcons (xr35 _ (xm 7 rfl)) (xcons (xr1 _ (xm 2 rfl)) xnil)))) (by decide +kernel)) ggL_law_X4_image
set_option maxRecDepth 20000 in
theorem gL_law_X5_image : GoodIn wsL_law (wsV RL 133 RX5 yX5_image wsX5_image) := goodIn_app (goodIn_sub (xcons (xr35 _ (xm 10 rfl)) (xcons (xr35 _ (xm 11 rfl)) (xcons (xr35 _ (xm 12 rfl)) (xcons (xr1 _ (xm 5 rfl)) xnil)))) (by decide +kernel)) ggL_law_X5_image
set_option maxRecDepth 20000 in
theorem gL_law_X4_on : GoodIn wsL_law (wsV RL 134 RX4 yX4_on wsX4_on) := goodIn_app (goodIn_sub (xcons (xr35 _ (xm 15 rfl)) (xcons (xr35 _ (xm 16 rfl)) (xcons (xr35 _ (xm 17 rfl)) (xcons (xr1 _ (xm 2 rfl)) xnil)))) (by decide +kernel)) ggL_law_X4_on
set_option maxRecDepth 20000 in
theorem gL_law_X5_on : GoodIn wsL_law (wsV RL 137 RX5 yX5_on wsX5_on) := goodIn_app (goodIn_sub (xcons (xr35 _ (xm 19 rfl)) (xcons (xr35 _ (xm 20 rfl)) (xcons (xr35 _ (xm 21 rfl)) (xcons (xr1 _ (xm 5 rfl)) xnil)))) (by decide +kernel)) ggL_law_X5_on
set_option maxRecDepth 20000 in
theorem gL_law_X4_count : GoodIn wsL_law (wsV RL 138 RX4 yX4_count wsX4_count) := goodIn_app (goodIn_sub (xcons (xr35 _ (xm 23 rfl)) (xcons (xr36 _ (xm 0 rfl)) (xcons (xr36 _ (xm 1 rfl)) (xcons (xr1 _ (xm 2 rfl)) xnil)))) (by decide +kernel)) ggL_law_X4_count
set_option maxRecDepth 20000 in
theorem gL_law_X5_count : GoodIn wsL_law (wsV RL 141 RX5 yX5_count wsX5_count) := goodIn_app (goodIn_sub (xcons (xr36 _ (xm 7 rfl)) (xcons (xr36 _ (xm 8 rfl)) (xcons (xr36 _ (xm 9 rfl)) (xcons (xr1 _ (xm 5 rfl)) xnil)))) (by decide +kernel)) ggL_law_X5_count

