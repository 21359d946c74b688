set_option maxRecDepth 20000 in
theorem gL_law_X4_init : GoodIn wsL_law (wsX4_init) := ggL_law_X4_init
set_option maxRecDepth 20000 in
theorem gL_law_X5_init : GoodIn wsL_law (wsX5_init) := ggL_law_X5_init
set_option maxRecDepth 20000 in
theorem gL_law_X4_letter : GoodIn wsL_law (wsV RL 13 RX4 yX4_letter wsX4_letter) := goodIn_app (goodIn_r _ [81, 82, 83, 2] rfl (by decide +kernel)) ggL_law_X4_letter
set_option maxRecDepth 20000 in
theorem gL_law_X5_letter : GoodIn wsL_law (wsV RL 17 RX5 yX5_letter wsX5_letter) := goodIn_app (goodIn_r _ [94, 95, 96, 5] rfl (by decide +kernel)) ggL_law_X5_letter
set_option maxRecDepth 20000 in
theorem gL_law_X4_road : GoodIn wsL_law (wsV RL 18 RX4 yX4_road wsX4_road) := goodIn_app (goodIn_r _ [103, 104, 105, 2] rfl (by decide +kernel)) ggL_law_X4_road
set_option maxRecDepth 20000 in
theorem gL_law_X5_road : GoodIn wsL_law (wsV RL 22 RX5 yX5_road wsX5_road) := goodIn_app (goodIn_r _ [294, 295, 296, 5] rfl (by decide +kernel)) ggL_law_X5_road
set_option maxRecDepth 20000 in
theorem gL_law_X4_stop : GoodIn wsL_law (wsV RL 23 RX4 yX4_stop wsX4_stop) := goodIn_app (goodIn_r _ [329, 330, 331, 2] rfl (by decide +kernel)) ggL_law_X4_stop
set_option maxRecDepth 20000 in
theorem gL_law_X5_stop : GoodIn wsL_law (wsV RL 27 RX5 yX5_stop wsX5_stop) := goodIn_app (goodIn_r _ [351, 352, 353, 5] rfl (by decide +kernel)) ggL_law_X5_stop
set_option maxRecDepth 20000 in
theorem gL_law_X4_line : GoodIn wsL_law (wsV RL 28 RX4 yX4_line wsX4_line) := goodIn_app (goodIn_r _ [370, 371, 372, 2] rfl (by decide +kernel)) ggL_law_X4_line
set_option maxRecDepth 20000 in
theorem gL_law_X5_line : GoodIn wsL_law (wsV RL 31 RX5 yX5_line wsX5_line) := goodIn_app (goodIn_r _ [392, 393, 394, 5] rfl (by decide +kernel)) ggL_law_X5_line
set_option maxRecDepth 20000 in
theorem gL_law_X4_chance : GoodIn wsL_law (wsV RL 32 RX4 yX4_chance wsX4_chance) := goodIn_app (goodIn_r _ [420, 421, 422, 2] rfl (by decide +kernel)) ggL_law_X4_chance
set_option maxRecDepth 20000 in
theorem gL_law_X5_chance : GoodIn wsL_law (wsV RL 35 RX5 yX5_chance wsX5_chance) := goodIn_app (goodIn_r _ [428, 429, 430, 5] rfl (by decide +kernel)) ggL_law_X5_chance
set_option maxRecDepth 20000 in
theorem gL_law_X4_there : GoodIn wsL_law (wsV RL 36 RX4 yX4_there wsX4_there) := goodIn_app (goodIn_r _ [432, 433, 434, 2] rfl (by decide +kernel)) ggL_law_X4_there
set_option maxRecDepth 20000 in
theorem gL_law_X5_there : GoodIn wsL_law (wsV RL 39 RX5 yX5_there wsX5_there) := goodIn_app (goodIn_r _ [440, 441, 442, 5] rfl (by decide +kernel)) ggL_law_X5_there
set_option maxRecDepth 20000 in
theorem gL_law_X4_set : GoodIn wsL_law (wsV RL 40 RX4 yX4_set wsX4_set) := goodIn_app (goodIn_r _ [448, 449, 450, 2] rfl (by decide +kernel)) ggL_law_X4_set
set_option maxRecDepth 20000 in
theorem gL_law_X5_set : GoodIn wsL_law (wsV RL 43 RX5 yX5_set wsX5_set) := goodIn_app (goodIn_r _ [459, 460, 461, 5] rfl (by decide +kernel)) ggL_law_X5_set
set_option maxRecDepth 20000 in
theorem gL_law_X4_comes : GoodIn wsL_law (wsV RL 44 RX4 yX4_comes wsX4_comes) := goodIn_app (goodIn_r _ [463, 464, 465, 2] rfl (by decide +kernel)) ggL_law_X4_comes
set_option maxRecDepth 20000 in
theorem gL_law_X5_comes : GoodIn wsL_law (wsV RL 48 RX5 yX5_comes wsX5_comes) := goodIn_app (goodIn_r _ [479, 480, 481, 5] rfl (by decide +kernel)) ggL_law_X5_comes
set_option maxRecDepth 20000 in
theorem gL_law_X4_homeAt : GoodIn wsL_law (wsV RL 49 RX4 yX4_homeAt wsX4_homeAt) := goodIn_app (goodIn_r _ [494, 495, 496, 2] rfl (by decide +kernel)) ggL_law_X4_homeAt
set_option maxRecDepth 20000 in
theorem gL_law_X5_homeAt : GoodIn wsL_law (wsV RL 53 RX5 yX5_homeAt wsX5_homeAt) := goodIn_app (goodIn_r _ [517, 518, 519, 5] rfl (by decide +kernel)) ggL_law_X5_homeAt
set_option maxRecDepth 20000 in
theorem gL_law_X4_walked : GoodIn wsL_law (wsV RL 54 RX4 yX4_walked wsX4_walked) := goodIn_app (goodIn_r _ [529, 530, 531, 2] rfl (by decide +kernel)) ggL_law_X4_walked
set_option maxRecDepth 20000 in
theorem gL_law_X5_walked : GoodIn wsL_law (wsV RL 57 RX5 yX5_walked wsX5_walked) := goodIn_app (goodIn_r _ [533, 534, 535, 5] rfl (by decide +kernel)) ggL_law_X5_walked
set_option maxRecDepth 20000 in
theorem gL_law_X4_mean : GoodIn wsL_law (wsV RL 58 RX4 yX4_mean wsX4_mean) := goodIn_app (goodIn_r _ [537, 538, 539, 2] rfl (by decide +kernel)) ggL_law_X4_mean
set_option maxRecDepth 20000 in
theorem gL_law_X5_mean : GoodIn wsL_law (wsV RL 61 RX5 yX5_mean wsX5_mean) := goodIn_app (goodIn_r _ [545, 546, 547, 5] rfl (by decide +kernel)) ggL_law_X5_mean
set_option maxRecDepth 20000 in
theorem gL_law_X4_sooner : GoodIn wsL_law (wsV RL 62 RX4 yX4_sooner wsX4_sooner) := goodIn_app (goodIn_r _ [553, 554, 555, 2] rfl (by decide +kernel)) ggL_law_X4_sooner
set_option maxRecDepth 20000 in
theorem gL_law_X5_sooner : GoodIn wsL_law (wsV RL 66 RX5 yX5_sooner wsX5_sooner) := goodIn_app (goodIn_r _ [557, 558, 559, 5] rfl (by decide +kernel)) ggL_law_X5_sooner
set_option maxRecDepth 20000 in
theorem gL_law_X4_best : GoodIn wsL_law (wsV RL 67 RX4 yX4_best wsX4_best) := goodIn_app (goodIn_r _ [561, 562, 563, 2] rfl (by decide +kernel)) ggL_law_X4_best
set_option maxRecDepth 20000 in
theorem gL_law_X5_best : GoodIn wsL_law (wsV RL 71 RX5 yX5_best wsX5_best) := goodIn_app (goodIn_r _ [622, 623, 624, 5] rfl (by decide +kernel)) ggL_law_X5_best
set_option maxRecDepth 20000 in
theorem gL_law_X4_bestMean : GoodIn wsL_law (wsV RL 72 RX4 yX4_bestMean wsX4_bestMean) := goodIn_app (goodIn_r _ [653, 654, 655, 2] rfl (by decide +kernel)) ggL_law_X4_bestMean
set_option maxRecDepth 20000 in
theorem gL_law_X5_bestMean : GoodIn wsL_law (wsV RL 75 RX5 yX5_bestMean wsX5_bestMean) := goodIn_app (goodIn_r _ [662, 663, 664, 5] rfl (by decide +kernel)) ggL_law_X5_bestMean
set_option maxRecDepth 20000 in
theorem gL_law_X4_patience : GoodIn wsL_law (wsV RL 76 RX4 yX4_patience wsX4_patience) := goodIn_app (goodIn_r _ [666, 667, 668, 2] rfl (by decide +kernel)) ggL_law_X4_patience
set_option maxRecDepth 20000 in
theorem gL_law_X5_patience : GoodIn wsL_law (wsV RL 79 RX5 yX5_patience wsX5_patience) := goodIn_app (goodIn_r _ [670, 671, 672, 5] rfl (by decide +kernel)) ggL_law_X5_patience
set_option maxRecDepth 20000 in
theorem gL_law_X4_news : GoodIn wsL_law (wsV RL 80 RX4 yX4_news wsX4_news) := goodIn_app (goodIn_r _ [674, 675, 676, 2] rfl (by decide +kernel)) ggL_law_X4_news
set_option maxRecDepth 20000 in
theorem gL_law_X5_news : GoodIn wsL_law (wsV RL 84 RX5 yX5_news wsX5_news) := goodIn_app (goodIn_r _ [684, 685, 686, 5] rfl (by decide +kernel)) ggL_law_X5_news
set_option maxRecDepth 20000 in
theorem gL_law_X4_both : GoodIn wsL_law (wsV RL 85 RX4 yX4_both wsX4_both) := goodIn_app (goodIn_r _ [688, 689, 690, 2] rfl (by decide +kernel)) ggL_law_X4_both
set_option maxRecDepth 20000 in
theorem gL_law_X5_both : GoodIn wsL_law (wsV RL 89 RX5 yX5_both wsX5_both) := goodIn_app (goodIn_r _ [708, 709, 710, 5] rfl (by decide +kernel)) ggL_law_X5_both
set_option maxRecDepth 20000 in
theorem gL_law_X4_letGo : GoodIn wsL_law (wsV RL 90 RX4 yX4_letGo wsX4_letGo) := goodIn_app (goodIn_r _ [716, 717, 718, 2] rfl (by decide +kernel)) ggL_law_X4_letGo
set_option maxRecDepth 20000 in
theorem gL_law_X5_letGo : GoodIn wsL_law (wsV RL 93 RX5 yX5_letGo wsX5_letGo) := goodIn_app (goodIn_r _ [720, 721, 722, 5] rfl (by decide +kernel)) ggL_law_X5_letGo
set_option maxRecDepth 20000 in
theorem gL_law_X4_letMean : GoodIn wsL_law (wsV RL 94 RX4 yX4_letMean wsX4_letMean) := goodIn_app (goodIn_r _ [724, 725, 726, 2] rfl (by decide +kernel)) ggL_law_X4_letMean
set_option maxRecDepth 20000 in
theorem gL_law_X5_letMean : GoodIn wsL_law (wsV RL 97 RX5 yX5_letMean wsX5_letMean) := goodIn_app (goodIn_r _ [728, 729, 730, 5] rfl (by decide +kernel)) ggL_law_X5_letMean
set_option maxRecDepth 20000 in
theorem gL_law_X4_back : GoodIn wsL_law (wsV RL 98 RX4 yX4_back wsX4_back) := goodIn_app (goodIn_r _ [732, 733, 734, 2] rfl (by decide +kernel)) ggL_law_X4_back
set_option maxRecDepth 20000 in
theorem gL_law_X5_back : GoodIn wsL_law (wsV RL 101 RX5 yX5_back wsX5_back) := goodIn_app (goodIn_r _ [737, 738, 739, 5] rfl (by decide +kernel)) ggL_law_X5_back
set_option maxRecDepth 20000 in
theorem gL_law_X4_gone : GoodIn wsL_law (wsV RL 102 RX4 yX4_gone wsX4_gone) := goodIn_app (goodIn_r _ [741, 742, 743, 2] rfl (by decide +kernel)) ggL_law_X4_gone
set_option maxRecDepth 20000 in
theorem gL_law_X5_gone : GoodIn wsL_law (wsV RL 105 RX5 yX5_gone wsX5_gone) := goodIn_app (goodIn_r _ [749, 750, 751, 5] rfl (by decide +kernel)) ggL_law_X5_gone
set_option maxRecDepth 20000 in
theorem gL_law_X4_stood : GoodIn wsL_law (wsV RL 106 RX4 yX4_stood wsX4_stood) := goodIn_app (goodIn_r _ [757, 758, 759, 2] rfl (by decide +kernel)) ggL_law_X4_stood
set_option maxRecDepth 20000 in
theorem gL_law_X5_stood : GoodIn wsL_law (wsV RL 109 RX5 yX5_stood wsX5_stood) := goodIn_app (goodIn_r _ [761, 762, 763, 5] rfl (by decide +kernel)) ggL_law_X5_stood
set_option maxRecDepth 20000 in
theorem gL_law_X4_others : GoodIn wsL_law (wsV RL 110 RX4 yX4_others wsX4_others) := goodIn_app (goodIn_r _ [765, 766, 767, 2] rfl (by decide +kernel)) ggL_law_X4_others
set_option maxRecDepth 20000 in
theorem gL_law_X5_others : GoodIn wsL_law (wsV RL 113 RX5 yX5_others wsX5_others) := goodIn_app (goodIn_r _ [772, 773, 774, 5] rfl (by decide +kernel)) ggL_law_X5_others
set_option maxRecDepth 20000 in
theorem gL_law_X4_rules : GoodIn wsL_law (wsV RL 114 RX4 yX4_rules wsX4_rules) := goodIn_app (goodIn_r _ [776, 777, 778, 2] rfl (by decide +kernel)) ggL_law_X4_rules
set_option maxRecDepth 20000 in
theorem gL_law_X5_rules : GoodIn wsL_law (wsV RL 117 RX5 yX5_rules wsX5_rules) := goodIn_app (goodIn_r _ [780, 781, 782, 5] rfl (by decide +kernel)) ggL_law_X5_rules
set_option maxRecDepth 20000 in
theorem gL_law_X4_row : GoodIn wsL_law (wsV RL 118 RX4 yX4_row wsX4_row) := goodIn_app (goodIn_r _ [784, 785, 786, 2] rfl (by decide +kernel)) ggL_law_X4_row
set_option maxRecDepth 20000 in
theorem gL_law_X5_row : GoodIn wsL_law (wsV RL 121 RX5 yX5_row wsX5_row) := goodIn_app (goodIn_r _ [789, 790, 791, 5] rfl (by decide +kernel)) ggL_law_X5_row
set_option maxRecDepth 20000 in
theorem gL_law_X4_judge : GoodIn wsL_law (wsV RL 122 RX4 yX4_judge wsX4_judge) := goodIn_app (goodIn_r _ [794, 795, 796, 2] rfl (by decide +kernel)) ggL_law_X4_judge
set_option maxRecDepth 20000 in
theorem gL_law_X5_judge : GoodIn wsL_law (wsV RL 125 RX5 yX5_judge wsX5_judge) := goodIn_app (goodIn_r _ [798, 799, 800, 5] rfl (by decide +kernel)) ggL_law_X5_judge
set_option maxRecDepth 20000 in
theorem gL_law_X4_lots : GoodIn wsL_law (wsV RL 126 RX4 yX4_lots wsX4_lots) := goodIn_app (goodIn_r _ [802, 803, 804, 2] rfl (by decide +kernel)) ggL_law_X4_lots
set_option maxRecDepth 20000 in
theorem gL_law_X5_lots : GoodIn wsL_law (wsV RL 129 RX5 yX5_lots wsX5_lots) := goodIn_app (goodIn_r _ [814, 815, 816, 5] rfl (by decide +kernel)) ggL_law_X5_lots
set_option maxRecDepth 20000 in
theorem gL_law_X4_image : GoodIn wsL_law (wsV RL 130 RX4 yX4_image wsX4_image) := goodIn_app (goodIn_r _ [821, 822, 823, 2] rfl (by decide +kernel)) ggL_law_X4_image
set_option maxRecDepth 20000 in
theorem gL_law_X5_image : GoodIn wsL_law (wsV RL 133 RX5 yX5_image wsX5_image) := goodIn_app (goodIn_r _ [826, 827, 828, 5] rfl (by decide +kernel)) ggL_law_X5_image
set_option maxRecDepth 20000 in
theorem gL_law_X4_on : GoodIn wsL_law (wsV RL 134 RX4 yX4_on wsX4_on) := goodIn_app (goodIn_r _ [831, 832, 833, 2] rfl (by decide +kernel)) ggL_law_X4_on
set_option maxRecDepth 20000 in
theorem gL_law_X5_on : GoodIn wsL_law (wsV RL 137 RX5 yX5_on wsX5_on) := goodIn_app (goodIn_r _ [835, 836, 837, 5] rfl (by decide +kernel)) ggL_law_X5_on
set_option maxRecDepth 20000 in
theorem gL_law_X4_count : GoodIn wsL_law (wsV RL 138 RX4 yX4_count wsX4_count) := goodIn_app (goodIn_r _ [839, 840, 841, 2] rfl (by decide +kernel)) ggL_law_X4_count
set_option maxRecDepth 20000 in
theorem gL_law_X5_count : GoodIn wsL_law (wsV RL 141 RX5 yX5_count wsX5_count) := goodIn_app (goodIn_r _ [847, 848, 849, 5] rfl (by decide +kernel)) ggL_law_X5_count

