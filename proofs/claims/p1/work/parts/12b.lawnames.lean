set_option maxRecDepth 20000 in
theorem ggL_law_X4_init : GoodIn wsL_law wsX4_init := goodIn_r _ [8, 9, 10, 11, 12, 13, 14, 15, 16, 17, 18, 19, 20, 21, 22, 23, 24, 25, 26, 27, 28, 29, 30, 31, 32, 33, 34, 35, 36, 37, 38, 39, 40, 41, 42, 43, 44, 45, 46, 47, 48, 49, 50, 51, 52, 53, 54, 55, 56, 57, 58, 59, 60, 61, 62, 63, 880, 881, 882, 883, 884, 885, 886, 887, 851, 852, 853, 854, 855, 856, 857, 858, 859, 860, 888, 889, 890, 891, 892, 893, 894, 895, 896, 897, 898, 899, 900, 901] (by decide +kernel) (by decide +kernel)
set_option maxRecDepth 20000 in
theorem gL_law_X4_init : GoodIn wsL_law (wsX4_init) := ggL_law_X4_init
set_option maxRecDepth 20000 in
theorem ggL_law_X5_init : GoodIn wsL_law wsX5_init := goodIn_r _ [66, 67, 10, 11, 26, 68, 69, 70, 71, 72, 73, 74, 75, 76, 77, 78, 79, 80, 861, 862, 863, 864, 865, 866, 867, 868, 869, 870, 871, 872, 873, 874, 875, 876, 877, 878, 879] (by decide +kernel) (by decide +kernel)
set_option maxRecDepth 20000 in
theorem gL_law_X5_init : GoodIn wsL_law (wsX5_init) := ggL_law_X5_init
set_option maxRecDepth 20000 in
theorem ggL_law_X4_letter : GoodIn wsL_law wsX4_letter := goodIn_r _ [84, 25, 85, 86, 87, 88, 2, 89, 28, 90, 91, 92, 24, 93, 63, 62, 851, 852, 853, 854, 855, 856, 857, 858, 859, 860, 896, 897] (by decide +kernel) (by decide +kernel)
set_option maxRecDepth 20000 in
theorem gL_law_X4_letter : GoodIn wsL_law (wsV RL 13 RX4 yX4_letter wsX4_letter) := goodIn_app (goodIn_of _ (by decide +kernel)) ggL_law_X4_letter
set_option maxRecDepth 20000 in
theorem ggL_law_X5_letter : GoodIn wsL_law wsX5_letter := goodIn_r _ [97, 98, 72, 99, 100, 101, 5, 102, 68, 861, 862, 863, 864, 865, 866, 867, 868, 869, 870, 871, 872, 873, 874, 875, 876, 877, 878, 879] (by decide +kernel) (by decide +kernel)
set_option maxRecDepth 20000 in
theorem gL_law_X5_letter : GoodIn wsL_law (wsV RL 17 RX5 yX5_letter wsX5_letter) := goodIn_app (goodIn_of _ (by decide +kernel)) ggL_law_X5_letter
set_option maxRecDepth 20000 in
theorem ggL_law_X4_road : GoodIn wsL_law wsX4_road := goodIn_r _ [106, 16, 15, 25, 85, 29, 107, 108, 109, 14, 110, 34, 35, 36, 37, 38, 39, 40, 111, 112, 113, 114, 42, 115, 116, 117, 44, 118, 119, 120, 121, 48, 122, 123, 124, 125, 24, 126, 63, 127, 128, 129, 130, 131, 132, 133, 134, 135, 136, 137, 138, 62, 139, 140, 141, 142, 143, 144, 145, 146, 147, 148, 149, 150, 151, 152, 153, 154, 155, 156, 157, 158, 159, 160, 161, 162, 163, 164, 165, 166, 167, 168, 169, 170, 171, 172, 173, 174, 175, 176, 177, 178, 179, 180, 181, 182, 183, 184, 185, 186, 187, 188, 189, 190, 191, 192, 193, 194, 195, 196, 197, 198, 199, 200, 201, 202, 203, 204, 205, 206, 207, 208, 209, 210, 211, 212, 213, 214, 215, 216, 217, 218, 219, 220, 221, 222, 223, 224, 225, 226, 227, 228, 229, 230, 231, 232, 233, 234, 235, 236, 237, 238, 239, 240, 241, 242, 243, 244, 245, 246, 247, 248, 249, 250, 251, 252, 253, 254, 255, 256, 257, 258, 259, 260, 261, 262, 263, 264, 265, 266, 267, 268, 269, 270, 271, 272, 273, 274, 275, 276, 277, 278, 279, 280, 281, 282, 283, 284, 285, 286, 287, 288, 289, 290, 291, 292, 293, 851, 852, 853, 854, 855, 856, 857, 858, 859, 860, 896, 897, 880, 881, 882, 883, 884, 885, 886, 887, 898, 899, 900, 901] (by decide +kernel) (by decide +kernel)
set_option maxRecDepth 20000 in
theorem gL_law_X4_road : GoodIn wsL_law (wsV RL 18 RX4 yX4_road wsX4_road) := goodIn_app (goodIn_of _ (by decide +kernel)) ggL_law_X4_road
set_option maxRecDepth 20000 in
theorem ggL_law_X5_road : GoodIn wsL_law wsX5_road := goodIn_r _ [297, 98, 298, 299, 300, 5, 301, 302, 303, 69, 304, 305, 306, 307, 308, 74, 76, 75, 72, 309, 310, 311, 312, 313, 314, 315, 316, 317, 318, 319, 320, 321, 322, 323, 324, 325, 326, 327, 328, 861, 862, 863, 864, 865, 866, 867, 868, 869, 870, 871, 872, 873, 874, 875, 876, 877, 878, 879] (by decide +kernel) (by decide +kernel)
set_option maxRecDepth 20000 in
theorem gL_law_X5_road : GoodIn wsL_law (wsV RL 22 RX5 yX5_road wsX5_road) := goodIn_app (goodIn_of _ (by decide +kernel)) ggL_law_X5_road
set_option maxRecDepth 20000 in
theorem ggL_law_X4_stop : GoodIn wsL_law wsX4_stop := goodIn_r _ [332, 15, 333, 334, 335, 336, 2, 337, 338, 86, 87, 88, 89, 28, 339, 340, 341, 14, 342, 34, 36, 343, 344, 345, 346, 347, 348, 349, 350, 40, 35, 851, 852, 853, 854, 855, 856, 857, 858, 859, 860, 880, 881, 882, 883, 884, 885, 886, 887] (by decide +kernel) (by decide +kernel)
set_option maxRecDepth 20000 in
theorem gL_law_X4_stop : GoodIn wsL_law (wsV RL 23 RX4 yX4_stop wsX4_stop) := goodIn_app (goodIn_of _ (by decide +kernel)) ggL_law_X4_stop
set_option maxRecDepth 20000 in
theorem ggL_law_X5_stop : GoodIn wsL_law wsX5_stop := goodIn_r _ [354, 69, 355, 356, 357, 5, 358, 99, 100, 101, 102, 68, 359, 360, 361, 362, 363, 364, 365, 366, 367, 368, 369, 861, 862, 863, 864, 865, 866, 867, 868, 869, 870, 871, 872, 873, 874, 875, 876, 877, 878, 879] (by decide +kernel) (by decide +kernel)
set_option maxRecDepth 20000 in
theorem gL_law_X5_stop : GoodIn wsL_law (wsV RL 27 RX5 yX5_stop wsX5_stop) := goodIn_app (goodIn_of _ (by decide +kernel)) ggL_law_X5_stop
set_option maxRecDepth 20000 in
theorem ggL_law_X4_line : GoodIn wsL_law wsX4_line := goodIn_r _ [373, 15, 374, 375, 376, 377, 378, 379, 380, 2, 381, 382, 86, 87, 88, 89, 28, 383, 287, 288, 44, 289, 121, 290, 291, 292, 293, 48, 384, 385, 386, 14, 387, 34, 388, 389, 390, 391, 119, 120, 851, 852, 853, 854, 855, 856, 857, 858, 859, 860, 880, 881, 882, 883, 884, 885, 886, 887, 898, 899, 900, 901] (by decide +kernel) (by decide +kernel)
set_option maxRecDepth 20000 in
theorem gL_law_X4_line : GoodIn wsL_law (wsV RL 28 RX4 yX4_line wsX4_line) := goodIn_app (goodIn_of _ (by decide +kernel)) ggL_law_X4_line
set_option maxRecDepth 20000 in
theorem ggL_law_X5_line : GoodIn wsL_law wsX5_line := goodIn_r _ [395, 69, 396, 397, 398, 5, 399, 99, 100, 101, 102, 68, 400, 401, 402, 403, 404, 405, 406, 407, 408, 409, 410, 411, 412, 413, 414, 415, 416, 417, 418, 419, 861, 862, 863, 864, 865, 866, 867, 868, 869, 870, 871, 872, 873, 874, 875, 876, 877, 878, 879] (by decide +kernel) (by decide +kernel)
set_option maxRecDepth 20000 in
theorem gL_law_X5_line : GoodIn wsL_law (wsV RL 31 RX5 yX5_line wsX5_line) := goodIn_app (goodIn_of _ (by decide +kernel)) ggL_law_X5_line
set_option maxRecDepth 20000 in
theorem ggL_law_X4_chance : GoodIn wsL_law wsX4_chance := goodIn_r _ [423, 15, 374, 378, 379, 380, 2, 381, 382, 86, 87, 88, 89, 28, 424, 425, 426, 44, 427, 121, 48, 851, 852, 853, 854, 855, 856, 857, 858, 859, 860, 880, 881, 882, 883, 884, 885, 886, 887, 898, 899, 900, 901] (by decide +kernel) (by decide +kernel)
set_option maxRecDepth 20000 in
theorem gL_law_X4_chance : GoodIn wsL_law (wsV RL 32 RX4 yX4_chance wsX4_chance) := goodIn_app (goodIn_of _ (by decide +kernel)) ggL_law_X4_chance
set_option maxRecDepth 20000 in
theorem ggL_law_X5_chance : GoodIn wsL_law wsX5_chance := goodIn_r _ [431, 396, 397, 398, 5, 399, 69, 99, 100, 101, 102, 68, 404, 405, 406, 407, 861, 862, 863, 864, 865, 866, 867, 868, 869, 870, 871, 872, 873, 874, 875, 876, 877, 878, 879] (by decide +kernel) (by decide +kernel)
set_option maxRecDepth 20000 in
theorem gL_law_X5_chance : GoodIn wsL_law (wsV RL 35 RX5 yX5_chance wsX5_chance) := goodIn_app (goodIn_of _ (by decide +kernel)) ggL_law_X5_chance
set_option maxRecDepth 20000 in
theorem ggL_law_X4_there : GoodIn wsL_law wsX4_there := goodIn_r _ [435, 15, 374, 378, 379, 380, 2, 381, 382, 334, 335, 336, 337, 338, 86, 87, 88, 89, 28, 384, 385, 386, 14, 387, 34, 436, 437, 438, 44, 439, 119, 388, 389, 390, 391, 120, 851, 852, 853, 854, 855, 856, 857, 858, 859, 860, 880, 881, 882, 883, 884, 885, 886, 887, 898, 899, 900, 901] (by decide +kernel) (by decide +kernel)
set_option maxRecDepth 20000 in
theorem gL_law_X4_there : GoodIn wsL_law (wsV RL 36 RX4 yX4_there wsX4_there) := goodIn_app (goodIn_of _ (by decide +kernel)) ggL_law_X4_there
set_option maxRecDepth 20000 in
theorem ggL_law_X5_there : GoodIn wsL_law wsX5_there := goodIn_r _ [443, 396, 397, 398, 5, 399, 69, 355, 356, 357, 358, 99, 100, 101, 102, 68, 444, 445, 446, 447, 412, 413, 414, 415, 416, 417, 418, 419, 861, 862, 863, 864, 865, 866, 867, 868, 869, 870, 871, 872, 873, 874, 875, 876, 877, 878, 879] (by decide +kernel) (by decide +kernel)
set_option maxRecDepth 20000 in
theorem gL_law_X5_there : GoodIn wsL_law (wsV RL 39 RX5 yX5_there wsX5_there) := goodIn_app (goodIn_of _ (by decide +kernel)) ggL_law_X5_there
set_option maxRecDepth 20000 in
theorem ggL_law_X4_set : GoodIn wsL_law wsX4_set := goodIn_r _ [451, 15, 29, 86, 87, 88, 2, 89, 28, 452, 271, 14, 272, 453, 274, 275, 454, 455, 456, 457, 35, 36, 37, 38, 458, 267, 268, 269, 270, 273, 851, 852, 853, 854, 855, 856, 857, 858, 859, 860, 880, 881, 882, 883, 884, 885, 886, 887] (by decide +kernel) (by decide +kernel)
set_option maxRecDepth 20000 in
theorem gL_law_X4_set : GoodIn wsL_law (wsV RL 40 RX4 yX4_set wsX4_set) := goodIn_app (goodIn_of _ (by decide +kernel)) ggL_law_X4_set
set_option maxRecDepth 20000 in
theorem ggL_law_X5_set : GoodIn wsL_law wsX5_set := goodIn_r _ [462, 78, 79, 69, 77, 99, 100, 101, 5, 102, 68, 861, 862, 863, 864, 865, 866, 867, 868, 869, 870, 871, 872, 873, 874, 875, 876, 877, 878, 879] (by decide +kernel) (by decide +kernel)
set_option maxRecDepth 20000 in
theorem gL_law_X5_set : GoodIn wsL_law (wsV RL 43 RX5 yX5_set wsX5_set) := goodIn_app (goodIn_of _ (by decide +kernel)) ggL_law_X5_set
set_option maxRecDepth 20000 in
theorem ggL_law_X4_comes : GoodIn wsL_law wsX4_comes := goodIn_r _ [466, 15, 374, 378, 379, 380, 2, 381, 382, 467, 468, 469, 470, 471, 86, 87, 88, 89, 28, 472, 473, 474, 424, 425, 426, 44, 427, 121, 48, 383, 287, 288, 289, 290, 291, 292, 293, 475, 476, 477, 478, 851, 852, 853, 854, 855, 856, 857, 858, 859, 860, 880, 881, 882, 883, 884, 885, 886, 887, 898, 899, 900, 901] (by decide +kernel) (by decide +kernel)
set_option maxRecDepth 20000 in
theorem gL_law_X4_comes : GoodIn wsL_law (wsV RL 44 RX4 yX4_comes wsX4_comes) := goodIn_app (goodIn_of _ (by decide +kernel)) ggL_law_X4_comes
set_option maxRecDepth 20000 in
theorem ggL_law_X5_comes : GoodIn wsL_law wsX5_comes := goodIn_r _ [482, 396, 397, 398, 5, 399, 69, 483, 484, 485, 486, 487, 99, 100, 101, 102, 68, 488, 489, 490, 404, 405, 406, 407, 400, 401, 402, 403, 491, 492, 493, 861, 862, 863, 864, 865, 866, 867, 868, 869, 870, 871, 872, 873, 874, 875, 876, 877, 878, 879] (by decide +kernel) (by decide +kernel)
set_option maxRecDepth 20000 in
theorem gL_law_X5_comes : GoodIn wsL_law (wsV RL 48 RX5 yX5_comes wsX5_comes) := goodIn_app (goodIn_of _ (by decide +kernel)) ggL_law_X5_comes
set_option maxRecDepth 20000 in
theorem ggL_law_X4_homeAt : GoodIn wsL_law wsX4_homeAt := goodIn_r _ [497, 15, 374, 498, 499, 500, 2, 501, 378, 379, 380, 381, 382, 502, 503, 504, 86, 87, 88, 89, 28, 505, 506, 507, 508, 509, 510, 384, 385, 386, 14, 387, 34, 511, 344, 345, 346, 347, 348, 349, 350, 40, 35, 512, 513, 514, 515, 516, 388, 389, 390, 44, 391, 119, 120, 436, 437, 438, 439, 851, 852, 853, 854, 855, 856, 857, 858, 859, 860, 880, 881, 882, 883, 884, 885, 886, 887, 898, 899, 900, 901] (by decide +kernel) (by decide +kernel)
set_option maxRecDepth 20000 in
theorem gL_law_X4_homeAt : GoodIn wsL_law (wsV RL 49 RX4 yX4_homeAt wsX4_homeAt) := goodIn_app (goodIn_of _ (by decide +kernel)) ggL_law_X4_homeAt
set_option maxRecDepth 20000 in
theorem ggL_law_X5_homeAt : GoodIn wsL_law wsX5_homeAt := goodIn_r _ [520, 396, 397, 398, 5, 399, 69, 99, 100, 101, 102, 68, 521, 522, 523, 524, 412, 413, 414, 415, 416, 417, 418, 419, 525, 526, 527, 528, 444, 445, 446, 447, 408, 409, 410, 411, 363, 364, 365, 366, 367, 368, 369, 861, 862, 863, 864, 865, 866, 867, 868, 869, 870, 871, 872, 873, 874, 875, 876, 877, 878, 879] (by decide +kernel) (by decide +kernel)
set_option maxRecDepth 20000 in
theorem gL_law_X5_homeAt : GoodIn wsL_law (wsV RL 53 RX5 yX5_homeAt wsX5_homeAt) := goodIn_app (goodIn_of _ (by decide +kernel)) ggL_law_X5_homeAt
set_option maxRecDepth 20000 in
theorem ggL_law_X4_walked : GoodIn wsL_law wsX4_walked := goodIn_r _ [532, 15, 339, 340, 341, 14, 342, 34, 36, 343, 344, 345, 346, 347, 348, 349, 350, 40, 35, 851, 852, 853, 854, 855, 856, 857, 858, 859, 860, 880, 881, 882, 883, 884, 885, 886, 887] (by decide +kernel) (by decide +kernel)
set_option maxRecDepth 20000 in
theorem gL_law_X4_walked : GoodIn wsL_law (wsV RL 54 RX4 yX4_walked wsX4_walked) := goodIn_app (goodIn_of _ (by decide +kernel)) ggL_law_X4_walked
set_option maxRecDepth 20000 in
theorem ggL_law_X5_walked : GoodIn wsL_law wsX5_walked := goodIn_r _ [536, 359, 360, 361, 5, 362, 69, 363, 364, 365, 366, 367, 368, 369, 861, 862, 863, 864, 865, 866, 867, 868, 869, 870, 871, 872, 873, 874, 875, 876, 877, 878, 879] (by decide +kernel) (by decide +kernel)
set_option maxRecDepth 20000 in
theorem gL_law_X5_walked : GoodIn wsL_law (wsV RL 57 RX5 yX5_walked wsX5_walked) := goodIn_app (goodIn_of _ (by decide +kernel)) ggL_law_X5_walked
set_option maxRecDepth 20000 in
theorem ggL_law_X4_mean : GoodIn wsL_law wsX4_mean := goodIn_r _ [540, 15, 374, 498, 499, 500, 2, 501, 378, 379, 380, 381, 382, 502, 503, 504, 467, 468, 469, 470, 471, 86, 87, 88, 89, 28, 472, 473, 474, 541, 542, 543, 544, 424, 425, 426, 44, 427, 121, 48, 505, 506, 507, 508, 509, 510, 384, 385, 386, 14, 387, 34, 511, 344, 345, 346, 347, 348, 349, 350, 40, 35, 512, 513, 514, 515, 516, 388, 389, 390, 391, 119, 120, 436, 437, 438, 439, 383, 287, 288, 289, 290, 291, 292, 293, 476, 477, 478, 851, 852, 853, 854, 855, 856, 857, 858, 859, 860, 880, 881, 882, 883, 884, 885, 886, 887, 898, 899, 900, 901] (by decide +kernel) (by decide +kernel)
set_option maxRecDepth 20000 in
theorem gL_law_X4_mean : GoodIn wsL_law (wsV RL 58 RX4 yX4_mean wsX4_mean) := goodIn_app (goodIn_of _ (by decide +kernel)) ggL_law_X4_mean
set_option maxRecDepth 20000 in
theorem ggL_law_X5_mean : GoodIn wsL_law wsX5_mean := goodIn_r _ [548, 396, 397, 398, 5, 399, 69, 483, 484, 485, 486, 487, 99, 100, 101, 102, 68, 488, 489, 490, 549, 550, 551, 552, 404, 405, 406, 407, 521, 522, 523, 524, 412, 413, 414, 415, 416, 417, 418, 419, 525, 526, 527, 528, 444, 445, 446, 447, 408, 409, 410, 411, 363, 364, 365, 366, 367, 368, 369, 400, 401, 402, 403, 491, 492, 493, 861, 862, 863, 864, 865, 866, 867, 868, 869, 870, 871, 872, 873, 874, 875, 876, 877, 878, 879] (by decide +kernel) (by decide +kernel)
set_option maxRecDepth 20000 in
theorem gL_law_X5_mean : GoodIn wsL_law (wsV RL 61 RX5 yX5_mean wsX5_mean) := goodIn_app (goodIn_of _ (by decide +kernel)) ggL_law_X5_mean
set_option maxRecDepth 20000 in
theorem ggL_law_X4_sooner : GoodIn wsL_law wsX4_sooner := goodIn_r _ [556, 15, 374, 498, 499, 500, 2, 501, 378, 379, 380, 381, 382, 502, 503, 504, 467, 468, 469, 470, 471, 86, 87, 88, 89, 28, 472, 473, 474, 505, 506, 507, 508, 509, 510, 384, 385, 386, 14, 387, 34, 511, 344, 345, 346, 347, 348, 349, 350, 40, 35, 512, 513, 514, 515, 516, 388, 389, 390, 44, 391, 119, 120, 436, 437, 438, 439, 424, 425, 426, 427, 121, 48, 383, 287, 288, 289, 290, 291, 292, 293, 476, 477, 478, 851, 852, 853, 854, 855, 856, 857, 858, 859, 860, 880, 881, 882, 883, 884, 885, 886, 887, 898, 899, 900, 901] (by decide +kernel) (by decide +kernel)
set_option maxRecDepth 20000 in
theorem gL_law_X4_sooner : GoodIn wsL_law (wsV RL 62 RX4 yX4_sooner wsX4_sooner) := goodIn_app (goodIn_of _ (by decide +kernel)) ggL_law_X4_sooner
set_option maxRecDepth 20000 in
theorem ggL_law_X5_sooner : GoodIn wsL_law wsX5_sooner := goodIn_r _ [560, 396, 397, 398, 5, 399, 69, 483, 484, 485, 486, 487, 99, 100, 101, 102, 68, 488, 489, 490, 521, 522, 523, 524, 412, 413, 414, 415, 416, 417, 418, 419, 525, 526, 527, 528, 444, 445, 446, 447, 408, 409, 410, 411, 363, 364, 365, 366, 367, 368, 369, 404, 405, 406, 407, 400, 401, 402, 403, 491, 492, 493, 861, 862, 863, 864, 865, 866, 867, 868, 869, 870, 871, 872, 873, 874, 875, 876, 877, 878, 879] (by decide +kernel) (by decide +kernel)
set_option maxRecDepth 20000 in
theorem gL_law_X5_sooner : GoodIn wsL_law (wsV RL 66 RX5 yX5_sooner wsX5_sooner) := goodIn_app (goodIn_of _ (by decide +kernel)) ggL_law_X5_sooner
set_option maxRecDepth 20000 in
theorem ggL_law_X4_best : GoodIn wsL_law wsX4_best := goodIn_r _ [564, 565, 566, 567, 2, 568, 378, 379, 380, 381, 15, 382, 334, 335, 336, 337, 338, 86, 87, 88, 89, 28, 569, 570, 571, 572, 29, 21, 374, 573, 574, 575, 20, 576, 577, 578, 54, 55, 579, 56, 58, 53, 52, 580, 385, 386, 14, 387, 34, 581, 582, 583, 584, 36, 585, 586, 389, 390, 44, 391, 119, 120, 343, 344, 345, 346, 347, 348, 349, 350, 40, 35, 587, 588, 589, 340, 341, 342, 590, 437, 438, 439, 591, 287, 288, 289, 121, 290, 291, 292, 293, 48, 592, 593, 594, 595, 596, 597, 179, 180, 181, 598, 183, 184, 599, 600, 601, 602, 603, 604, 605, 606, 607, 608, 609, 610, 611, 612, 613, 614, 615, 616, 617, 618, 619, 620, 621, 851, 852, 853, 854, 855, 856, 857, 858, 859, 860, 880, 881, 882, 883, 884, 885, 886, 887, 888, 889, 890, 891, 892, 893, 894, 895, 898, 899, 900, 901] (by decide +kernel) (by decide +kernel)
set_option maxRecDepth 20000 in
theorem gL_law_X4_best : GoodIn wsL_law (wsV RL 67 RX4 yX4_best wsX4_best) := goodIn_app (goodIn_of _ (by decide +kernel)) ggL_law_X4_best
set_option maxRecDepth 20000 in
theorem ggL_law_X5_best : GoodIn wsL_law wsX5_best := goodIn_r _ [625, 626, 396, 397, 398, 5, 399, 69, 355, 356, 357, 358, 99, 100, 101, 102, 68, 627, 628, 629, 630, 631, 179, 180, 181, 632, 183, 184, 412, 413, 414, 415, 416, 417, 418, 419, 400, 401, 402, 403, 404, 405, 406, 407, 633, 634, 635, 636, 80, 637, 638, 639, 640, 641, 642, 643, 644, 444, 445, 446, 447, 408, 409, 410, 411, 363, 364, 365, 366, 367, 368, 369, 359, 360, 361, 362, 645, 646, 647, 648, 649, 650, 651, 652, 861, 862, 863, 864, 865, 866, 867, 868, 869, 870, 871, 872, 873, 874, 875, 876, 877, 878, 879] (by decide +kernel) (by decide +kernel)
set_option maxRecDepth 20000 in
theorem gL_law_X5_best : GoodIn wsL_law (wsV RL 71 RX5 yX5_best wsX5_best) := goodIn_app (goodIn_of _ (by decide +kernel)) ggL_law_X5_best
set_option maxRecDepth 20000 in
theorem ggL_law_X4_bestMean : GoodIn wsL_law wsX4_bestMean := goodIn_r _ [656, 565, 566, 567, 2, 568, 378, 379, 380, 381, 15, 382, 334, 335, 336, 337, 338, 467, 468, 469, 470, 471, 86, 87, 88, 89, 28, 472, 473, 474, 569, 570, 571, 572, 29, 21, 374, 573, 574, 575, 20, 576, 577, 578, 54, 55, 579, 56, 58, 53, 52, 580, 385, 386, 14, 387, 34, 581, 582, 583, 584, 36, 585, 586, 389, 390, 44, 391, 119, 120, 343, 344, 345, 346, 347, 348, 349, 350, 40, 35, 587, 588, 589, 340, 341, 342, 590, 437, 438, 439, 591, 287, 288, 289, 121, 290, 291, 292, 293, 48, 592, 593, 594, 595, 596, 597, 179, 180, 181, 598, 183, 184, 599, 600, 601, 602, 603, 604, 605, 606, 607, 608, 609, 610, 611, 612, 613, 657, 658, 659, 660, 661, 619, 620, 621, 476, 477, 478, 851, 852, 853, 854, 855, 856, 857, 858, 859, 860, 880, 881, 882, 883, 884, 885, 886, 887, 888, 889, 890, 891, 892, 893, 894, 895, 898, 899, 900, 901] (by decide +kernel) (by decide +kernel)
set_option maxRecDepth 20000 in
theorem gL_law_X4_bestMean : GoodIn wsL_law (wsV RL 72 RX4 yX4_bestMean wsX4_bestMean) := goodIn_app (goodIn_of _ (by decide +kernel)) ggL_law_X4_bestMean
set_option maxRecDepth 20000 in
theorem ggL_law_X5_bestMean : GoodIn wsL_law wsX5_bestMean := goodIn_r _ [665, 80, 396, 397, 398, 5, 399, 69, 355, 356, 357, 358, 483, 484, 485, 486, 487, 99, 100, 101, 102, 68, 488, 489, 490, 633, 634, 635, 636, 631, 179, 180, 181, 632, 183, 184, 412, 413, 414, 415, 416, 417, 418, 419, 637, 638, 639, 640, 641, 642, 643, 644, 626, 404, 405, 406, 407, 444, 445, 446, 447, 408, 409, 410, 411, 363, 364, 365, 366, 367, 368, 369, 359, 360, 361, 362, 645, 646, 647, 648, 400, 401, 402, 403, 649, 650, 651, 652, 627, 628, 629, 630, 491, 492, 493, 861, 862, 863, 864, 865, 866, 867, 868, 869, 870, 871, 872, 873, 874, 875, 876, 877, 878, 879] (by decide +kernel) (by decide +kernel)
set_option maxRecDepth 20000 in
theorem gL_law_X5_bestMean : GoodIn wsL_law (wsV RL 75 RX5 yX5_bestMean wsX5_bestMean) := goodIn_app (goodIn_of _ (by decide +kernel)) ggL_law_X5_bestMean
set_option maxRecDepth 20000 in
theorem ggL_law_X4_patience : GoodIn wsL_law wsX4_patience := goodIn_r _ [669, 378, 379, 380, 2, 381, 15, 382, 86, 87, 88, 89, 28, 569, 570, 571, 572, 29, 21, 374, 573, 574, 575, 20, 576, 577, 578, 54, 55, 579, 56, 58, 53, 52, 580, 385, 386, 14, 387, 34, 581, 582, 583, 584, 36, 585, 586, 389, 390, 44, 391, 119, 120, 343, 344, 345, 346, 347, 348, 349, 350, 40, 35, 587, 588, 589, 340, 341, 342, 590, 437, 438, 439, 591, 287, 288, 289, 121, 290, 291, 292, 293, 48, 592, 593, 594, 595, 596, 597, 179, 180, 181, 598, 183, 184, 599, 600, 601, 602, 603, 604, 605, 606, 607, 608, 609, 610, 611, 612, 613, 614, 615, 616, 617, 618, 619, 620, 621, 851, 852, 853, 854, 855, 856, 857, 858, 859, 860, 880, 881, 882, 883, 884, 885, 886, 887, 888, 889, 890, 891, 892, 893, 894, 895, 898, 899, 900, 901] (by decide +kernel) (by decide +kernel)
set_option maxRecDepth 20000 in
theorem gL_law_X4_patience : GoodIn wsL_law (wsV RL 76 RX4 yX4_patience wsX4_patience) := goodIn_app (goodIn_of _ (by decide +kernel)) ggL_law_X4_patience
set_option maxRecDepth 20000 in
theorem ggL_law_X5_patience : GoodIn wsL_law wsX5_patience := goodIn_r _ [673, 626, 396, 397, 398, 5, 399, 69, 99, 100, 101, 102, 68, 633, 634, 635, 636, 631, 179, 180, 181, 632, 183, 184, 80, 412, 413, 414, 415, 416, 417, 418, 419, 637, 638, 639, 640, 641, 642, 643, 644, 404, 405, 406, 407, 444, 445, 446, 447, 408, 409, 410, 411, 363, 364, 365, 366, 367, 368, 369, 359, 360, 361, 362, 645, 646, 647, 648, 400, 401, 402, 403, 649, 650, 651, 652, 627, 628, 629, 630, 861, 862, 863, 864, 865, 866, 867, 868, 869, 870, 871, 872, 873, 874, 875, 876, 877, 878, 879] (by decide +kernel) (by decide +kernel)
set_option maxRecDepth 20000 in
theorem gL_law_X5_patience : GoodIn wsL_law (wsV RL 79 RX5 yX5_patience wsX5_patience) := goodIn_app (goodIn_of _ (by decide +kernel)) ggL_law_X5_patience
set_option maxRecDepth 20000 in
theorem ggL_law_X4_news : GoodIn wsL_law wsX4_news := goodIn_r _ [677, 15, 374, 378, 379, 380, 2, 381, 382, 467, 468, 469, 470, 471, 86, 87, 88, 89, 28, 472, 473, 474, 569, 570, 571, 572, 29, 21, 573, 574, 575, 20, 576, 577, 578, 54, 55, 579, 56, 58, 53, 52, 580, 385, 386, 14, 387, 34, 581, 582, 583, 584, 36, 585, 586, 389, 390, 44, 391, 119, 120, 343, 344, 345, 346, 347, 348, 349, 350, 40, 35, 587, 588, 589, 340, 341, 342, 590, 437, 438, 439, 591, 287, 288, 289, 121, 290, 291, 292, 293, 48, 592, 593, 594, 595, 596, 597, 179, 180, 181, 598, 183, 184, 599, 600, 601, 602, 603, 604, 605, 606, 607, 608, 609, 610, 611, 612, 613, 657, 658, 659, 660, 678, 679, 680, 681, 682, 339, 424, 425, 426, 427, 683, 383, 476, 477, 478, 851, 852, 853, 854, 855, 856, 857, 858, 859, 860, 880, 881, 882, 883, 884, 885, 886, 887, 888, 889, 890, 891, 892, 893, 894, 895, 898, 899, 900, 901] (by decide +kernel) (by decide +kernel)
set_option maxRecDepth 20000 in
theorem gL_law_X4_news : GoodIn wsL_law (wsV RL 80 RX4 yX4_news wsX4_news) := goodIn_app (goodIn_of _ (by decide +kernel)) ggL_law_X4_news
set_option maxRecDepth 20000 in
theorem ggL_law_X5_news : GoodIn wsL_law wsX5_news := goodIn_r _ [687, 80, 69, 632, 183, 180, 184, 396, 397, 398, 5, 399, 483, 484, 485, 486, 487, 99, 100, 101, 102, 68, 488, 489, 490, 633, 634, 635, 636, 631, 179, 181, 412, 413, 414, 415, 416, 417, 418, 419, 637, 638, 639, 640, 641, 642, 643, 644, 626, 404, 405, 406, 407, 444, 445, 446, 447, 408, 409, 410, 411, 363, 364, 365, 366, 367, 368, 369, 359, 360, 361, 362, 645, 646, 647, 648, 400, 401, 402, 403, 649, 650, 651, 652, 491, 492, 493, 861, 862, 863, 864, 865, 866, 867, 868, 869, 870, 871, 872, 873, 874, 875, 876, 877, 878, 879] (by decide +kernel) (by decide +kernel)
set_option maxRecDepth 20000 in
theorem gL_law_X5_news : GoodIn wsL_law (wsV RL 84 RX5 yX5_news wsX5_news) := goodIn_app (goodIn_of _ (by decide +kernel)) ggL_law_X5_news
set_option maxRecDepth 20000 in
theorem ggL_law_X4_both : GoodIn wsL_law wsX4_both := goodIn_r _ [691, 692, 693, 694, 2, 695, 378, 379, 380, 381, 15, 382, 467, 468, 469, 470, 471, 86, 87, 88, 89, 28, 472, 473, 474, 696, 697, 698, 699, 374, 383, 287, 288, 44, 289, 121, 290, 291, 292, 293, 48, 700, 701, 702, 703, 683, 582, 583, 14, 584, 36, 585, 385, 386, 387, 34, 586, 389, 390, 391, 119, 120, 343, 344, 345, 346, 347, 348, 349, 350, 40, 35, 424, 425, 426, 427, 704, 705, 706, 707, 516, 682, 183, 180, 184, 384, 339, 340, 341, 342, 476, 477, 478, 851, 852, 853, 854, 855, 856, 857, 858, 859, 860, 880, 881, 882, 883, 884, 885, 886, 887, 898, 899, 900, 901] (by decide +kernel) (by decide +kernel)
set_option maxRecDepth 20000 in
theorem gL_law_X4_both : GoodIn wsL_law (wsV RL 85 RX4 yX4_both wsX4_both) := goodIn_app (goodIn_of _ (by decide +kernel)) ggL_law_X4_both
set_option maxRecDepth 20000 in
theorem ggL_law_X5_both : GoodIn wsL_law wsX5_both := goodIn_r _ [711, 396, 397, 398, 5, 399, 69, 483, 484, 485, 486, 487, 99, 100, 101, 102, 68, 488, 489, 490, 712, 713, 714, 715, 408, 409, 410, 411, 412, 413, 414, 415, 416, 417, 418, 419, 363, 364, 365, 366, 367, 368, 369, 359, 360, 361, 362, 404, 405, 406, 407, 400, 401, 402, 403, 491, 492, 493, 861, 862, 863, 864, 865, 866, 867, 868, 869, 870, 871, 872, 873, 874, 875, 876, 877, 878, 879] (by decide +kernel) (by decide +kernel)
set_option maxRecDepth 20000 in
theorem gL_law_X5_both : GoodIn wsL_law (wsV RL 89 RX5 yX5_both wsX5_both) := goodIn_app (goodIn_of _ (by decide +kernel)) ggL_law_X5_both
set_option maxRecDepth 20000 in
theorem ggL_law_X4_letGo : GoodIn wsL_law wsX4_letGo := goodIn_r _ [719, 692, 693, 694, 2, 695, 378, 379, 380, 381, 15, 382, 86, 87, 88, 89, 28, 700, 701, 702, 703, 374, 683, 582, 583, 14, 584, 36, 585, 385, 386, 387, 34, 586, 389, 390, 44, 391, 119, 120, 343, 344, 345, 346, 347, 348, 349, 350, 40, 35, 424, 425, 426, 427, 121, 48, 704, 705, 706, 707, 516, 682, 183, 180, 184, 384, 339, 340, 341, 342, 851, 852, 853, 854, 855, 856, 857, 858, 859, 860, 880, 881, 882, 883, 884, 885, 886, 887, 898, 899, 900, 901] (by decide +kernel) (by decide +kernel)
set_option maxRecDepth 20000 in
theorem gL_law_X4_letGo : GoodIn wsL_law (wsV RL 90 RX4 yX4_letGo wsX4_letGo) := goodIn_app (goodIn_of _ (by decide +kernel)) ggL_law_X4_letGo
set_option maxRecDepth 20000 in
theorem ggL_law_X5_letGo : GoodIn wsL_law wsX5_letGo := goodIn_r _ [723, 396, 397, 398, 5, 399, 69, 99, 100, 101, 102, 68, 712, 713, 714, 715, 408, 409, 410, 411, 412, 413, 414, 415, 416, 417, 418, 419, 363, 364, 365, 366, 367, 368, 369, 359, 360, 361, 362, 404, 405, 406, 407, 861, 862, 863, 864, 865, 866, 867, 868, 869, 870, 871, 872, 873, 874, 875, 876, 877, 878, 879] (by decide +kernel) (by decide +kernel)
set_option maxRecDepth 20000 in
theorem gL_law_X5_letGo : GoodIn wsL_law (wsV RL 93 RX5 yX5_letGo wsX5_letGo) := goodIn_app (goodIn_of _ (by decide +kernel)) ggL_law_X5_letGo
set_option maxRecDepth 20000 in
theorem ggL_law_X4_letMean : GoodIn wsL_law wsX4_letMean := goodIn_r _ [727, 692, 693, 694, 2, 695, 378, 379, 380, 381, 15, 382, 467, 468, 469, 470, 471, 86, 87, 88, 89, 28, 472, 473, 474, 696, 697, 698, 699, 374, 383, 287, 288, 44, 289, 121, 290, 291, 292, 293, 48, 700, 701, 702, 703, 683, 582, 583, 14, 584, 36, 585, 385, 386, 387, 34, 586, 389, 390, 391, 119, 120, 343, 344, 345, 346, 347, 348, 349, 350, 40, 35, 424, 425, 426, 427, 704, 705, 706, 707, 516, 682, 183, 180, 184, 384, 339, 340, 341, 342, 476, 477, 478, 851, 852, 853, 854, 855, 856, 857, 858, 859, 860, 880, 881, 882, 883, 884, 885, 886, 887, 898, 899, 900, 901] (by decide +kernel) (by decide +kernel)
set_option maxRecDepth 20000 in
theorem gL_law_X4_letMean : GoodIn wsL_law (wsV RL 94 RX4 yX4_letMean wsX4_letMean) := goodIn_app (goodIn_of _ (by decide +kernel)) ggL_law_X4_letMean
set_option maxRecDepth 20000 in
theorem ggL_law_X5_letMean : GoodIn wsL_law wsX5_letMean := goodIn_r _ [731, 396, 397, 398, 5, 399, 69, 483, 484, 485, 486, 487, 99, 100, 101, 102, 68, 488, 489, 490, 712, 713, 714, 715, 408, 409, 410, 411, 412, 413, 414, 415, 416, 417, 418, 419, 363, 364, 365, 366, 367, 368, 369, 359, 360, 361, 362, 404, 405, 406, 407, 400, 401, 402, 403, 491, 492, 493, 861, 862, 863, 864, 865, 866, 867, 868, 869, 870, 871, 872, 873, 874, 875, 876, 877, 878, 879] (by decide +kernel) (by decide +kernel)
set_option maxRecDepth 20000 in
theorem gL_law_X5_letMean : GoodIn wsL_law (wsV RL 97 RX5 yX5_letMean wsX5_letMean) := goodIn_app (goodIn_of _ (by decide +kernel)) ggL_law_X5_letMean
set_option maxRecDepth 20000 in
theorem ggL_law_X4_back : GoodIn wsL_law wsX4_back := goodIn_r _ [735, 15, 509, 682, 183, 180, 184, 334, 335, 336, 2, 337, 338, 86, 87, 88, 89, 28, 736, 348, 349, 14, 350, 34, 40, 35, 851, 852, 853, 854, 855, 856, 857, 858, 859, 860, 880, 881, 882, 883, 884, 885, 886, 887] (by decide +kernel) (by decide +kernel)
set_option maxRecDepth 20000 in
theorem gL_law_X4_back : GoodIn wsL_law (wsV RL 98 RX4 yX4_back wsX4_back) := goodIn_app (goodIn_of _ (by decide +kernel)) ggL_law_X4_back
set_option maxRecDepth 20000 in
theorem ggL_law_X5_back : GoodIn wsL_law wsX5_back := goodIn_r _ [740, 69, 632, 183, 180, 184, 355, 356, 357, 5, 358, 99, 100, 101, 102, 68, 861, 862, 863, 864, 865, 866, 867, 868, 869, 870, 871, 872, 873, 874, 875, 876, 877, 878, 879] (by decide +kernel) (by decide +kernel)
set_option maxRecDepth 20000 in
theorem gL_law_X5_back : GoodIn wsL_law (wsV RL 101 RX5 yX5_back wsX5_back) := goodIn_app (goodIn_of _ (by decide +kernel)) ggL_law_X5_back
set_option maxRecDepth 20000 in
theorem ggL_law_X4_gone : GoodIn wsL_law wsX4_gone := goodIn_r _ [744, 15, 374, 565, 566, 567, 2, 568, 378, 379, 380, 381, 382, 334, 335, 336, 337, 338, 467, 468, 469, 470, 471, 86, 87, 88, 89, 28, 472, 473, 474, 745, 746, 747, 748, 384, 385, 386, 14, 387, 34, 436, 437, 438, 44, 439, 119, 476, 477, 478, 388, 389, 390, 391, 120, 475, 291, 292, 293, 48, 383, 287, 288, 289, 121, 290, 851, 852, 853, 854, 855, 856, 857, 858, 859, 860, 880, 881, 882, 883, 884, 885, 886, 887, 898, 899, 900, 901] (by decide +kernel) (by decide +kernel)
set_option maxRecDepth 20000 in
theorem gL_law_X4_gone : GoodIn wsL_law (wsV RL 102 RX4 yX4_gone wsX4_gone) := goodIn_app (goodIn_of _ (by decide +kernel)) ggL_law_X4_gone
set_option maxRecDepth 20000 in
theorem ggL_law_X5_gone : GoodIn wsL_law wsX5_gone := goodIn_r _ [752, 396, 397, 398, 5, 399, 69, 355, 356, 357, 358, 483, 484, 485, 486, 487, 99, 100, 101, 102, 68, 488, 489, 490, 444, 445, 446, 447, 753, 754, 755, 756, 400, 401, 402, 403, 404, 405, 406, 407, 627, 628, 629, 630, 631, 179, 180, 181, 632, 183, 184, 412, 413, 414, 415, 416, 417, 418, 419, 491, 492, 493, 861, 862, 863, 864, 865, 866, 867, 868, 869, 870, 871, 872, 873, 874, 875, 876, 877, 878, 879] (by decide +kernel) (by decide +kernel)
set_option maxRecDepth 20000 in
theorem gL_law_X5_gone : GoodIn wsL_law (wsV RL 105 RX5 yX5_gone wsX5_gone) := goodIn_app (goodIn_of _ (by decide +kernel)) ggL_law_X5_gone
set_option maxRecDepth 20000 in
theorem ggL_law_X4_stood : GoodIn wsL_law wsX4_stood := goodIn_r _ [760, 15, 374, 378, 379, 380, 2, 381, 382, 334, 335, 336, 337, 338, 467, 468, 469, 470, 471, 86, 87, 88, 89, 28, 472, 473, 474, 745, 746, 747, 748, 384, 385, 386, 14, 387, 34, 436, 437, 438, 44, 439, 119, 476, 477, 478, 388, 389, 390, 391, 120, 475, 291, 292, 293, 48, 383, 287, 288, 289, 121, 290, 851, 852, 853, 854, 855, 856, 857, 858, 859, 860, 880, 881, 882, 883, 884, 885, 886, 887, 898, 899, 900, 901] (by decide +kernel) (by decide +kernel)
set_option maxRecDepth 20000 in
theorem gL_law_X4_stood : GoodIn wsL_law (wsV RL 106 RX4 yX4_stood wsX4_stood) := goodIn_app (goodIn_of _ (by decide +kernel)) ggL_law_X4_stood
set_option maxRecDepth 20000 in
theorem ggL_law_X5_stood : GoodIn wsL_law wsX5_stood := goodIn_r _ [764, 396, 397, 398, 5, 399, 69, 355, 356, 357, 358, 483, 484, 485, 486, 487, 99, 100, 101, 102, 68, 488, 489, 490, 444, 445, 446, 447, 753, 754, 755, 756, 400, 401, 402, 403, 404, 405, 406, 407, 627, 628, 629, 630, 631, 179, 180, 181, 632, 183, 184, 412, 413, 414, 415, 416, 417, 418, 419, 491, 492, 493, 861, 862, 863, 864, 865, 866, 867, 868, 869, 870, 871, 872, 873, 874, 875, 876, 877, 878, 879] (by decide +kernel) (by decide +kernel)
set_option maxRecDepth 20000 in
theorem gL_law_X5_stood : GoodIn wsL_law (wsV RL 109 RX5 yX5_stood wsX5_stood) := goodIn_app (goodIn_of _ (by decide +kernel)) ggL_law_X5_stood
set_option maxRecDepth 20000 in
theorem ggL_law_X4_others : GoodIn wsL_law wsX4_others := goodIn_r _ [768, 86, 87, 88, 2, 89, 28, 769, 770, 771, 851, 852, 853, 854, 855, 856, 857, 858, 859, 860] (by decide +kernel) (by decide +kernel)
set_option maxRecDepth 20000 in
theorem gL_law_X4_others : GoodIn wsL_law (wsV RL 110 RX4 yX4_others wsX4_others) := goodIn_app (goodIn_of _ (by decide +kernel)) ggL_law_X4_others
set_option maxRecDepth 20000 in
theorem ggL_law_X5_others : GoodIn wsL_law wsX5_others := goodIn_r _ [775, 57, 99, 100, 101, 5, 102, 68, 861, 862, 863, 864, 865, 866, 867, 868, 869, 870, 871, 872, 873, 874, 875, 876, 877, 878, 879] (by decide +kernel) (by decide +kernel)
set_option maxRecDepth 20000 in
theorem gL_law_X5_others : GoodIn wsL_law (wsV RL 113 RX5 yX5_others wsX5_others) := goodIn_app (goodIn_of _ (by decide +kernel)) ggL_law_X5_others
set_option maxRecDepth 20000 in
theorem ggL_law_X4_rules : GoodIn wsL_law wsX4_rules := goodIn_r _ [779, 15, 374, 378, 379, 380, 2, 381, 382, 86, 87, 88, 89, 28, 541, 542, 543, 544, 424, 425, 426, 44, 427, 121, 48, 505, 506, 507, 508, 509, 510, 384, 385, 386, 14, 387, 34, 511, 344, 345, 346, 347, 348, 349, 350, 40, 35, 512, 513, 514, 515, 516, 388, 389, 390, 391, 119, 120, 436, 437, 438, 439, 851, 852, 853, 854, 855, 856, 857, 858, 859, 860, 880, 881, 882, 883, 884, 885, 886, 887, 898, 899, 900, 901] (by decide +kernel) (by decide +kernel)
set_option maxRecDepth 20000 in
theorem gL_law_X4_rules : GoodIn wsL_law (wsV RL 114 RX4 yX4_rules wsX4_rules) := goodIn_app (goodIn_of _ (by decide +kernel)) ggL_law_X4_rules
set_option maxRecDepth 20000 in
theorem ggL_law_X5_rules : GoodIn wsL_law wsX5_rules := goodIn_r _ [783, 396, 397, 398, 5, 399, 69, 99, 100, 101, 102, 68, 549, 550, 551, 552, 404, 405, 406, 407, 521, 522, 523, 524, 412, 413, 414, 415, 416, 417, 418, 419, 525, 526, 527, 528, 444, 445, 446, 447, 408, 409, 410, 411, 363, 364, 365, 366, 367, 368, 369, 861, 862, 863, 864, 865, 866, 867, 868, 869, 870, 871, 872, 873, 874, 875, 876, 877, 878, 879] (by decide +kernel) (by decide +kernel)
set_option maxRecDepth 20000 in
theorem gL_law_X5_rules : GoodIn wsL_law (wsV RL 117 RX5 yX5_rules wsX5_rules) := goodIn_app (goodIn_of _ (by decide +kernel)) ggL_law_X5_rules
set_option maxRecDepth 20000 in
theorem ggL_law_X4_row : GoodIn wsL_law wsX4_row := goodIn_r _ [787, 788, 27, 86, 87, 88, 2, 89, 28, 851, 852, 853, 854, 855, 856, 857, 858, 859, 860] (by decide +kernel) (by decide +kernel)
set_option maxRecDepth 20000 in
theorem gL_law_X4_row : GoodIn wsL_law (wsV RL 118 RX4 yX4_row wsX4_row) := goodIn_app (goodIn_of _ (by decide +kernel)) ggL_law_X4_row
set_option maxRecDepth 20000 in
theorem ggL_law_X5_row : GoodIn wsL_law wsX5_row := goodIn_r _ [792, 793, 71, 99, 100, 101, 5, 102, 68, 861, 862, 863, 864, 865, 866, 867, 868, 869, 870, 871, 872, 873, 874, 875, 876, 877, 878, 879] (by decide +kernel) (by decide +kernel)
set_option maxRecDepth 20000 in
theorem gL_law_X5_row : GoodIn wsL_law (wsV RL 121 RX5 yX5_row wsX5_row) := goodIn_app (goodIn_of _ (by decide +kernel)) ggL_law_X5_row
set_option maxRecDepth 20000 in
theorem ggL_law_X4_judge : GoodIn wsL_law wsX4_judge := goodIn_r _ [797, 788, 27, 15, 509, 334, 335, 336, 2, 337, 338, 511, 344, 345, 14, 346, 347, 348, 349, 350, 34, 40, 35, 851, 852, 853, 854, 855, 856, 857, 858, 859, 860, 880, 881, 882, 883, 884, 885, 886, 887] (by decide +kernel) (by decide +kernel)
set_option maxRecDepth 20000 in
theorem gL_law_X4_judge : GoodIn wsL_law (wsV RL 122 RX4 yX4_judge wsX4_judge) := goodIn_app (goodIn_of _ (by decide +kernel)) ggL_law_X4_judge
set_option maxRecDepth 20000 in
theorem ggL_law_X5_judge : GoodIn wsL_law wsX5_judge := goodIn_r _ [801, 793, 69, 71, 363, 364, 365, 5, 366, 367, 368, 369, 861, 862, 863, 864, 865, 866, 867, 868, 869, 870, 871, 872, 873, 874, 875, 876, 877, 878, 879] (by decide +kernel) (by decide +kernel)
set_option maxRecDepth 20000 in
theorem gL_law_X5_judge : GoodIn wsL_law (wsV RL 125 RX5 yX5_judge wsX5_judge) := goodIn_app (goodIn_of _ (by decide +kernel)) ggL_law_X5_judge
set_option maxRecDepth 20000 in
theorem ggL_law_X4_lots : GoodIn wsL_law wsX4_lots := goodIn_r _ [805, 15, 374, 806, 179, 180, 181, 807, 808, 809, 378, 379, 380, 2, 381, 382, 86, 87, 88, 89, 28, 502, 503, 504, 383, 287, 288, 44, 289, 121, 290, 291, 292, 293, 48, 810, 811, 812, 813, 505, 506, 507, 508, 509, 510, 384, 385, 386, 14, 387, 34, 511, 344, 345, 346, 347, 348, 349, 350, 40, 35, 512, 513, 514, 515, 516, 388, 389, 390, 391, 119, 120, 436, 437, 438, 439, 851, 852, 853, 854, 855, 856, 857, 858, 859, 860, 880, 881, 882, 883, 884, 885, 886, 887, 898, 899, 900, 901] (by decide +kernel) (by decide +kernel)
set_option maxRecDepth 20000 in
theorem gL_law_X4_lots : GoodIn wsL_law (wsV RL 126 RX4 yX4_lots wsX4_lots) := goodIn_app (goodIn_of _ (by decide +kernel)) ggL_law_X4_lots
set_option maxRecDepth 20000 in
theorem ggL_law_X5_lots : GoodIn wsL_law wsX5_lots := goodIn_r _ [817, 818, 819, 820, 396, 397, 398, 5, 399, 69, 99, 100, 101, 102, 68, 400, 401, 402, 403, 404, 405, 406, 407, 521, 522, 523, 524, 412, 413, 414, 415, 416, 417, 418, 419, 525, 526, 527, 528, 444, 445, 446, 447, 408, 409, 410, 411, 363, 364, 365, 366, 367, 368, 369, 861, 862, 863, 864, 865, 866, 867, 868, 869, 870, 871, 872, 873, 874, 875, 876, 877, 878, 879] (by decide +kernel) (by decide +kernel)
set_option maxRecDepth 20000 in
theorem gL_law_X5_lots : GoodIn wsL_law (wsV RL 129 RX5 yX5_lots wsX5_lots) := goodIn_app (goodIn_of _ (by decide +kernel)) ggL_law_X5_lots
set_option maxRecDepth 20000 in
theorem ggL_law_X4_image : GoodIn wsL_law wsX4_image := goodIn_r _ [824, 17, 15, 825, 338, 107, 108, 109, 14, 110, 34, 35, 36, 37, 38, 39, 40, 111, 112, 113, 114, 42, 115, 116, 117, 44, 118, 119, 120, 121, 48, 122, 851, 852, 853, 854, 855, 856, 857, 858, 859, 860, 880, 881, 882, 883, 884, 885, 886, 887, 898, 899, 900, 901] (by decide +kernel) (by decide +kernel)
set_option maxRecDepth 20000 in
theorem gL_law_X4_image : GoodIn wsL_law (wsV RL 130 RX4 yX4_image wsX4_image) := goodIn_app (goodIn_of _ (by decide +kernel)) ggL_law_X4_image
set_option maxRecDepth 20000 in
theorem ggL_law_X5_image : GoodIn wsL_law wsX5_image := goodIn_r _ [829, 830, 70, 69, 861, 862, 863, 864, 865, 866, 867, 868, 869, 870, 871, 872, 873, 874, 875, 876, 877, 878, 879] (by decide +kernel) (by decide +kernel)
set_option maxRecDepth 20000 in
theorem gL_law_X5_image : GoodIn wsL_law (wsV RL 133 RX5 yX5_image wsX5_image) := goodIn_app (goodIn_of _ (by decide +kernel)) ggL_law_X5_image
set_option maxRecDepth 20000 in
theorem ggL_law_X4_on : GoodIn wsL_law wsX4_on := goodIn_r _ [834, 825, 15, 17, 29, 338, 86, 87, 88, 2, 89, 28, 107, 108, 109, 14, 110, 34, 35, 36, 37, 38, 39, 40, 111, 112, 113, 114, 42, 115, 116, 117, 44, 118, 119, 120, 121, 48, 122, 851, 852, 853, 854, 855, 856, 857, 858, 859, 860, 880, 881, 882, 883, 884, 885, 886, 887, 898, 899, 900, 901] (by decide +kernel) (by decide +kernel)
set_option maxRecDepth 20000 in
theorem gL_law_X4_on : GoodIn wsL_law (wsV RL 134 RX4 yX4_on wsX4_on) := goodIn_app (goodIn_of _ (by decide +kernel)) ggL_law_X4_on
set_option maxRecDepth 20000 in
theorem ggL_law_X5_on : GoodIn wsL_law wsX5_on := goodIn_r _ [838, 830, 69, 70, 99, 100, 101, 5, 102, 68, 861, 862, 863, 864, 865, 866, 867, 868, 869, 870, 871, 872, 873, 874, 875, 876, 877, 878, 879] (by decide +kernel) (by decide +kernel)
set_option maxRecDepth 20000 in
theorem gL_law_X5_on : GoodIn wsL_law (wsV RL 137 RX5 yX5_on wsX5_on) := goodIn_app (goodIn_of _ (by decide +kernel)) ggL_law_X5_on
set_option maxRecDepth 20000 in
theorem ggL_law_X4_count : GoodIn wsL_law wsX4_count := goodIn_r _ [842, 28, 15, 338, 382, 509, 510, 516, 788, 25, 85, 843, 844, 845, 14, 846, 35, 34, 40, 851, 852, 853, 854, 855, 856, 857, 858, 859, 860, 880, 881, 882, 883, 884, 885, 886, 887, 896, 897] (by decide +kernel) (by decide +kernel)
set_option maxRecDepth 20000 in
theorem gL_law_X4_count : GoodIn wsL_law (wsV RL 138 RX4 yX4_count wsX4_count) := goodIn_app (goodIn_of _ (by decide +kernel)) ggL_law_X4_count
set_option maxRecDepth 20000 in
theorem ggL_law_X5_count : GoodIn wsL_law wsX5_count := goodIn_r _ [850, 69, 793, 98, 68, 861, 862, 863, 864, 865, 866, 867, 868, 869, 870, 871, 872, 873, 874, 875, 876, 877, 878, 879] (by decide +kernel) (by decide +kernel)
set_option maxRecDepth 20000 in
theorem gL_law_X5_count : GoodIn wsL_law (wsV RL 141 RX5 yX5_count wsX5_count) := goodIn_app (goodIn_of _ (by decide +kernel)) ggL_law_X5_count

