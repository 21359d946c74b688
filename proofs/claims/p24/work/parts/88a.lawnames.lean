theorem xmem_r {big : List Cond} (ws : List Cond) (ps : List Nat) (hp : ws = ps.filterMap (fun i => big[i]?)) : ∀ w ∈ ws, w ∈ big := by
  intro w hw
  rw [hp] at hw
  obtain ⟨i, -, hi⟩ := List.mem_filterMap.mp hw
  first | exact List.mem_of_getElem? hi | exact List.getElem?_mem hi
theorem xmem_app {big a b : List Cond} (ha : ∀ w ∈ a, w ∈ big) (hb : ∀ w ∈ b, w ∈ big) : ∀ w ∈ a ++ b, w ∈ big := fun w h => (List.mem_append.mp h).elim (ha w) (hb w)
set_option maxRecDepth 20000 in
theorem wsL_in_1 : ∀ w ∈ wsL_law_r1, w ∈ lw_tbl := xmem_r _ [75, 76, 62, 710, 711, 67, 77, 78, 79, 80, 81, 82, 83, 84, 63, 198, 199, 200, 152, 153, 65, 201, 184, 185] rfl
set_option maxRecDepth 20000 in
theorem wsL_in_2 : ∀ w ∈ wsL_law_r2, w ∈ lw_tbl := xmem_r _ [66, 202, 116, 203, 204, 207, 85, 86, 87, 88, 117, 119, 120, 123, 125, 127, 130, 89, 132, 91, 64, 93, 94, 95] rfl
set_option maxRecDepth 20000 in
theorem wsL_in_3 : ∀ w ∈ wsL_law_r3, w ∈ lw_tbl := xmem_r _ [105, 155, 156, 157, 158, 159, 160, 161, 162, 183, 163, 187, 188, 189, 190, 191, 712, 713, 714, 715, 716, 717, 718, 720] rfl
set_option maxRecDepth 20000 in
theorem wsL_in_4 : ∀ w ∈ wsL_law_r4, w ∈ lw_tbl := xmem_r _ [722, 774, 726, 727, 729, 730, 731, 732, 733, 229, 230, 231, 232, 192, 233, 235, 0, 236, 237, 238, 239, 240, 787, 788] rfl
set_option maxRecDepth 20000 in
theorem wsL_in_5 : ∀ w ∈ wsL_law_r5, w ∈ lw_tbl := xmem_r _ [789, 790, 723, 783, 785, 31, 786, 241, 242, 243, 244, 245, 246, 247, 248, 249, 251, 250, 68, 252, 253, 254, 255, 96] rfl
set_option maxRecDepth 20000 in
theorem wsL_in_6 : ∀ w ∈ wsL_law_r6, w ∈ lw_tbl := xmem_r _ [99, 102, 256, 257, 258, 259, 260, 261, 263, 1, 264, 265, 267, 2, 268, 269, 271, 3, 272, 273, 274, 275, 276, 278] rfl
set_option maxRecDepth 20000 in
theorem wsL_in_7 : ∀ w ∈ wsL_law_r7, w ∈ lw_tbl := xmem_r _ [4, 279, 280, 282, 5, 283, 285, 286, 287, 69, 288, 289, 290, 291, 292, 1031, 293, 294, 295, 296, 297, 1030, 299, 300] rfl
set_option maxRecDepth 20000 in
theorem wsL_in_8 : ∀ w ∈ wsL_law_r8, w ∈ lw_tbl := xmem_r _ [301, 302, 303, 304, 305, 306, 307, 308, 70, 309, 313, 314, 71, 315, 316, 317, 318, 310, 311, 312, 319, 320, 321, 322] rfl
set_option maxRecDepth 20000 in
theorem wsL_in_9 : ∀ w ∈ wsL_law_r9, w ∈ lw_tbl := xmem_r _ [323, 72, 324, 325, 326, 327, 328, 329, 330, 331, 332, 333, 334, 335, 336, 337, 338, 339, 340, 342, 343, 73, 344, 345] rfl
set_option maxRecDepth 20000 in
theorem wsL_in_10 : ∀ w ∈ wsL_law_r10, w ∈ lw_tbl := xmem_r _ [346, 347, 348, 349, 350, 351, 353, 355, 357, 358, 359, 360, 361, 74, 362, 363, 364, 365, 366, 367, 368, 369, 370, 371] rfl
set_option maxRecDepth 20000 in
theorem wsL_in_11 : ∀ w ∈ wsL_law_r11, w ∈ lw_tbl := xmem_r _ [373, 6, 374, 375, 377, 7, 378, 379, 380, 381, 382, 384, 8, 385, 386, 388, 9, 389, 390, 392, 10, 393, 394, 395] rfl
set_option maxRecDepth 20000 in
theorem wsL_in_12 : ∀ w ∈ wsL_law_r12, w ∈ lw_tbl := xmem_r _ [396, 397, 398, 399, 400, 401, 402, 403, 404, 405, 406, 407, 408, 410, 11, 411, 128, 134, 98, 101, 104, 106, 412, 413] rfl
set_option maxRecDepth 20000 in
theorem wsL_in_13 : ∀ w ∈ wsL_law_r13, w ∈ lw_tbl := xmem_r _ [414, 415, 416, 417, 418, 419, 791, 792, 793, 794, 795, 797, 32, 798, 724, 725, 728, 799, 801, 33, 802, 803, 805, 34] rfl
set_option maxRecDepth 20000 in
theorem wsL_in_14 : ∀ w ∈ wsL_law_r14, w ∈ lw_tbl := xmem_r _ [806, 807, 809, 35, 810, 811, 813, 36, 814, 815, 817, 37, 818, 819, 821, 38, 822, 421, 422, 423, 424, 131, 425, 427] rfl
set_option maxRecDepth 20000 in
theorem wsL_in_15 : ∀ w ∈ wsL_law_r15, w ∈ lw_tbl := xmem_r _ [12, 428, 118, 429, 430, 431, 432, 433, 434, 435, 436, 437, 438, 439, 440, 823, 824, 825, 826, 827, 829, 39, 830, 831] rfl
set_option maxRecDepth 20000 in
theorem wsL_in_16 : ∀ w ∈ wsL_law_r16, w ∈ lw_tbl := xmem_r _ [833, 40, 834, 835, 837, 41, 838, 839, 840, 841, 441, 442, 443, 444, 133, 97, 100, 103, 445, 447, 13, 448, 129, 449] rfl
set_option maxRecDepth 20000 in
theorem wsL_in_17 : ∀ w ∈ wsL_law_r17, w ∈ lw_tbl := xmem_r _ [450, 451, 452, 453, 454, 455, 456, 457, 842, 843, 844, 845, 846, 848, 42, 849, 850, 852, 43, 853, 854, 856, 44, 857] rfl
set_option maxRecDepth 20000 in
theorem wsL_in_18 : ∀ w ∈ wsL_law_r18, w ∈ lw_tbl := xmem_r _ [858, 860, 45, 861, 862, 864, 46, 865, 866, 868, 47, 869, 458, 459, 460, 461, 462, 463, 464, 465, 870, 871, 872, 873] rfl
set_option maxRecDepth 20000 in
theorem wsL_in_19 : ∀ w ∈ wsL_law_r19, w ∈ lw_tbl := xmem_r _ [466, 467, 468, 469, 470, 471, 472, 473, 874, 875, 876, 877, 878, 880, 48, 881, 474, 475, 476, 477, 478, 479, 480, 481] rfl
set_option maxRecDepth 20000 in
theorem wsL_in_20 : ∀ w ∈ wsL_law_r20, w ∈ lw_tbl := xmem_r _ [482, 483, 484, 882, 883, 884, 885, 485, 486, 487, 488, 489, 491, 14, 492, 493, 494, 495, 496, 497, 498, 499, 500, 886] rfl
set_option maxRecDepth 20000 in
theorem wsL_in_21 : ∀ w ∈ wsL_law_r21, w ∈ lw_tbl := xmem_r _ [887, 888, 889, 890, 892, 49, 893, 894, 895, 896, 897, 898, 899, 900, 501, 502, 503, 504, 505, 507, 15, 508, 509, 510] rfl
set_option maxRecDepth 20000 in
theorem wsL_in_22 : ∀ w ∈ wsL_law_r22, w ∈ lw_tbl := xmem_r _ [511, 512, 514, 16, 515, 122, 124, 516, 517, 519, 17, 520, 126, 901, 902, 903, 904, 905, 907, 50, 908, 909, 911, 51] rfl
set_option maxRecDepth 20000 in
theorem wsL_in_23 : ∀ w ∈ wsL_law_r23, w ∈ lw_tbl := xmem_r _ [912, 521, 522, 523, 524, 913, 914, 915, 916, 525, 526, 527, 528, 529, 531, 18, 532, 917, 918, 919, 920, 921, 923, 52] rfl
set_option maxRecDepth 20000 in
theorem wsL_in_24 : ∀ w ∈ wsL_law_r24, w ∈ lw_tbl := xmem_r _ [924, 533, 534, 535, 536, 925, 926, 927, 928, 537, 538, 539, 540, 541, 543, 19, 544, 545, 547, 20, 548, 549, 550, 551] rfl
set_option maxRecDepth 20000 in
theorem wsL_in_25 : ∀ w ∈ wsL_law_r25, w ∈ lw_tbl := xmem_r _ [552, 164, 165, 121, 553, 554, 555, 556, 557, 558, 559, 560, 561, 562, 563, 564, 565, 566, 568, 21, 569, 570, 571, 572] rfl
set_option maxRecDepth 20000 in
theorem wsL_in_26 : ∀ w ∈ wsL_law_r26, w ∈ lw_tbl := xmem_r _ [573, 574, 575, 577, 22, 578, 579, 581, 23, 582, 583, 585, 24, 586, 587, 588, 589, 590, 591, 592, 593, 594, 929, 930] rfl
set_option maxRecDepth 20000 in
theorem wsL_in_27 : ∀ w ∈ wsL_law_r27, w ∈ lw_tbl := xmem_r _ [931, 932, 734, 933, 935, 53, 936, 937, 938, 939, 941, 54, 942, 943, 945, 55, 946, 947, 949, 56, 950, 951, 953, 57] rfl
set_option maxRecDepth 20000 in
theorem wsL_in_28 : ∀ w ∈ wsL_law_r28, w ∈ lw_tbl := xmem_r _ [954, 955, 957, 58, 958, 595, 596, 597, 598, 599, 600, 601, 602, 603, 959, 960, 961, 962, 604, 605, 606, 607, 963, 964] rfl
set_option maxRecDepth 20000 in
theorem wsL_in_29 : ∀ w ∈ wsL_law_r29, w ∈ lw_tbl := xmem_r _ [965, 966, 608, 609, 610, 611, 612, 614, 25, 615, 617, 616, 967, 968, 969, 970, 618, 619, 620, 621, 622, 624, 26, 625] rfl
set_option maxRecDepth 20000 in
theorem wsL_in_30 : ∀ w ∈ wsL_law_r30, w ∈ lw_tbl := xmem_r _ [626, 628, 27, 629, 630, 632, 28, 633, 634, 636, 29, 637, 971, 972, 973, 974, 975, 977, 59, 978, 638, 639, 640, 641] rfl
set_option maxRecDepth 20000 in
theorem wsL_in_31 : ∀ w ∈ wsL_law_r31, w ∈ lw_tbl := xmem_r _ [979, 980, 981, 982, 642, 643, 644, 645, 983, 984, 985, 986, 646, 647, 648, 649, 650, 987, 988, 989, 990, 651, 652, 653] rfl
set_option maxRecDepth 20000 in
theorem wsL_in_32 : ∀ w ∈ wsL_law_r32, w ∈ lw_tbl := xmem_r _ [654, 655, 657, 30, 658, 991, 992, 993, 994, 995, 997, 60, 998, 659, 660, 661, 662, 999, 1000, 1001, 1002, 663, 664, 665] rfl
set_option maxRecDepth 20000 in
theorem wsL_in_33 : ∀ w ∈ wsL_law_r33, w ∈ lw_tbl := xmem_r _ [666, 667, 668, 669, 1003, 1004, 1005, 1006, 670, 671, 672, 673, 1007, 1008, 1009, 1010, 674, 675, 676, 677, 205, 1011, 1012, 1013] rfl
set_option maxRecDepth 20000 in
theorem wsL_in_34 : ∀ w ∈ wsL_law_r34, w ∈ lw_tbl := xmem_r _ [1014, 721, 678, 679, 680, 681, 1015, 1016, 1017, 1018, 682, 683, 684, 685, 686, 687, 688, 689, 690, 691, 692, 693, 1019, 1020] rfl
set_option maxRecDepth 20000 in
theorem wsL_in_35 : ∀ w ∈ wsL_law_r35, w ∈ lw_tbl := xmem_r _ [1021, 1022, 1023, 1024, 1025, 694, 695, 696, 697, 206, 775, 776, 777, 778, 719, 698, 699, 700, 701, 779, 780, 781, 782, 702] rfl
set_option maxRecDepth 20000 in
theorem wsL_in_36 : ∀ w ∈ wsL_law_r36, w ∈ lw_tbl := xmem_r _ [703, 704, 705, 706, 707, 708, 709, 1026, 1027, 1028, 1029] rfl
set_option maxRecDepth 20000 in
theorem inX4 : ∀ w ∈ wsX40, w ∈ lw_tbl := xmem_r _ [208, 210, 212, 214, 216, 218, 220, 222, 224, 226] rfl
set_option maxRecDepth 20000 in
theorem inX5 : ∀ w ∈ wsX50, w ∈ lw_tbl := xmem_r _ [735, 737, 739, 741, 743, 745, 747, 749, 751, 753, 755, 757, 759, 761, 763, 765, 767, 769, 771] rfl
set_option maxRecDepth 20000 in
theorem inX2 : ∀ w ∈ wsX20, w ∈ lw_tbl := xmem_r _ [135, 137, 139, 141, 143, 145, 147, 149] rfl
set_option maxRecDepth 20000 in
theorem inX1 : ∀ w ∈ wsX10, w ∈ lw_tbl := xmem_r _ [166, 168, 170, 172, 174, 176, 178, 180] rfl
set_option maxRecDepth 20000 in
theorem inX3 : ∀ w ∈ wsX30, w ∈ lw_tbl := xmem_r _ [193, 195] rfl
set_option maxRecDepth 20000 in
theorem inX0 : ∀ w ∈ wsX00, w ∈ lw_tbl := xmem_r _ [107, 109, 111, 113] rfl
theorem wsL_law_in : ∀ w ∈ wsL_law, w ∈ lw_tbl := (xmem_app (xmem_app (xmem_app (xmem_app (xmem_app (xmem_app (xmem_app (xmem_app wsL_in_1 (xmem_app wsL_in_2 (xmem_app wsL_in_3 (xmem_app wsL_in_4 (xmem_app wsL_in_5 (xmem_app wsL_in_6 (xmem_app wsL_in_7 (xmem_app wsL_in_8 (xmem_app wsL_in_9 (xmem_app wsL_in_10 (xmem_app wsL_in_11 (xmem_app wsL_in_12 (xmem_app wsL_in_13 (xmem_app wsL_in_14 (xmem_app wsL_in_15 (xmem_app wsL_in_16 (xmem_app wsL_in_17 (xmem_app wsL_in_18 (xmem_app wsL_in_19 (xmem_app wsL_in_20 (xmem_app wsL_in_21 (xmem_app wsL_in_22 (xmem_app wsL_in_23 (xmem_app wsL_in_24 (xmem_app wsL_in_25 (xmem_app wsL_in_26 (xmem_app wsL_in_27 (xmem_app wsL_in_28 (xmem_app wsL_in_29 (xmem_app wsL_in_30 (xmem_app wsL_in_31 (xmem_app wsL_in_32 (xmem_app wsL_in_33 (xmem_app wsL_in_34 (xmem_app wsL_in_35 wsL_in_36))))))))))))))))))))))))))))))))))) inX4) inX5) inX2) inX1) inX3) inX0) (fun _ h => absurd h List.not_mem_nil))
theorem inlX0 : ∀ w ∈ wsX00, w ∈ wsL_law := fun _ h => List.mem_append_left _ (List.mem_append_right _ h)
theorem inlX1 : ∀ w ∈ wsX10, w ∈ wsL_law := fun _ h => List.mem_append_left _ (List.mem_append_left _ (List.mem_append_left _ (List.mem_append_right _ h)))
theorem inlX2 : ∀ w ∈ wsX20, w ∈ wsL_law := fun _ h => List.mem_append_left _ (List.mem_append_left _ (List.mem_append_left _ (List.mem_append_left _ (List.mem_append_right _ h))))
theorem inlX3 : ∀ w ∈ wsX30, w ∈ wsL_law := fun _ h => List.mem_append_left _ (List.mem_append_left _ (List.mem_append_right _ h))
theorem inlX4 : ∀ w ∈ wsX40, w ∈ wsL_law := fun _ h => List.mem_append_left _ (List.mem_append_left _ (List.mem_append_left _ (List.mem_append_left _ (List.mem_append_left _ (List.mem_append_left _ (List.mem_append_right _ h))))))
theorem inlX5 : ∀ w ∈ wsX50, w ∈ wsL_law := fun _ h => List.mem_append_left _ (List.mem_append_left _ (List.mem_append_left _ (List.mem_append_left _ (List.mem_append_left _ (List.mem_append_right _ h)))))
