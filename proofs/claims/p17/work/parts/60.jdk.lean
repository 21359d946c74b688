theorem dJ11_isValidCodePoint_9a6ad_0 : decode cJ11_isValidCodePoint_9a6ad 0 = .ok (.iload_n 0, 1) := by decide +kernel
theorem dJ11_isValidCodePoint_9a6ad_1 : decode cJ11_isValidCodePoint_9a6ad 1 = .ok (.bipush 16, 2) := by decide +kernel
theorem dJ11_isValidCodePoint_9a6ad_3 : decode cJ11_isValidCodePoint_9a6ad 3 = .ok (.iushr, 1) := by decide +kernel
theorem dJ11_isValidCodePoint_9a6ad_4 : decode cJ11_isValidCodePoint_9a6ad 4 = .ok (.istore_n 1, 1) := by decide +kernel
theorem dJ11_isValidCodePoint_9a6ad_5 : decode cJ11_isValidCodePoint_9a6ad 5 = .ok (.iload_n 1, 1) := by decide +kernel
theorem dJ11_isValidCodePoint_9a6ad_6 : decode cJ11_isValidCodePoint_9a6ad 6 = .ok (.bipush 17, 2) := by decide +kernel
theorem dJ11_isValidCodePoint_9a6ad_8 : decode cJ11_isValidCodePoint_9a6ad 8 = .ok (.if_icmp .ge 7, 3) := by decide +kernel
theorem dJ11_isValidCodePoint_9a6ad_11 : decode cJ11_isValidCodePoint_9a6ad 11 = .ok (.iconst 1, 1) := by decide +kernel
theorem dJ11_isValidCodePoint_9a6ad_12 : decode cJ11_isValidCodePoint_9a6ad 12 = .ok (.goto 4, 3) := by decide +kernel
theorem dJ11_isValidCodePoint_9a6ad_15 : decode cJ11_isValidCodePoint_9a6ad 15 = .ok (.iconst 0, 1) := by decide +kernel
theorem dJ11_isValidCodePoint_9a6ad_16 : decode cJ11_isValidCodePoint_9a6ad 16 = .ok (.ireturn, 1) := by decide +kernel
theorem dJ11_highSurrogate_5068e_0 : decode cJ11_highSurrogate_5068e 0 = .ok (.iload_n 0, 1) := by decide +kernel
theorem dJ11_highSurrogate_5068e_1 : decode cJ11_highSurrogate_5068e 1 = .ok (.bipush 10, 2) := by decide +kernel
theorem dJ11_highSurrogate_5068e_3 : decode cJ11_highSurrogate_5068e 3 = .ok (.iushr, 1) := by decide +kernel
theorem dJ11_highSurrogate_5068e_4 : decode cJ11_highSurrogate_5068e 4 = .ok (.ldc 110, 2) := by decide +kernel
theorem dJ11_highSurrogate_5068e_6 : decode cJ11_highSurrogate_5068e 6 = .ok (.iadd, 1) := by decide +kernel
theorem dJ11_highSurrogate_5068e_7 : decode cJ11_highSurrogate_5068e 7 = .ok (.i2c, 1) := by decide +kernel
theorem dJ11_highSurrogate_5068e_8 : decode cJ11_highSurrogate_5068e 8 = .ok (.ireturn, 1) := by decide +kernel
theorem dJ11_lowSurrogate_5068e_0 : decode cJ11_lowSurrogate_5068e 0 = .ok (.iload_n 0, 1) := by decide +kernel
theorem dJ11_lowSurrogate_5068e_1 : decode cJ11_lowSurrogate_5068e 1 = .ok (.sipush 1023, 3) := by decide +kernel
theorem dJ11_lowSurrogate_5068e_4 : decode cJ11_lowSurrogate_5068e 4 = .ok (.iand, 1) := by decide +kernel
theorem dJ11_lowSurrogate_5068e_5 : decode cJ11_lowSurrogate_5068e 5 = .ok (.ldc 76, 2) := by decide +kernel
theorem dJ11_lowSurrogate_5068e_7 : decode cJ11_lowSurrogate_5068e 7 = .ok (.iadd, 1) := by decide +kernel
theorem dJ11_lowSurrogate_5068e_8 : decode cJ11_lowSurrogate_5068e 8 = .ok (.i2c, 1) := by decide +kernel
theorem dJ11_lowSurrogate_5068e_9 : decode cJ11_lowSurrogate_5068e 9 = .ok (.ireturn, 1) := by decide +kernel
theorem dJ9_max_7cf53_0 : decode cJ9_max_7cf53 0 = .ok (.iload_n 0, 1) := by decide +kernel
theorem dJ9_max_7cf53_1 : decode cJ9_max_7cf53 1 = .ok (.iload_n 1, 1) := by decide +kernel
theorem dJ9_max_7cf53_2 : decode cJ9_max_7cf53 2 = .ok (.if_icmp .lt 7, 3) := by decide +kernel
theorem dJ9_max_7cf53_5 : decode cJ9_max_7cf53 5 = .ok (.iload_n 0, 1) := by decide +kernel
theorem dJ9_max_7cf53_6 : decode cJ9_max_7cf53 6 = .ok (.goto 4, 3) := by decide +kernel
theorem dJ9_max_7cf53_9 : decode cJ9_max_7cf53 9 = .ok (.iload_n 1, 1) := by decide +kernel
theorem dJ9_max_7cf53_10 : decode cJ9_max_7cf53 10 = .ok (.ireturn, 1) := by decide +kernel
theorem dJ9_min_7cf53_0 : decode cJ9_min_7cf53 0 = .ok (.iload_n 0, 1) := by decide +kernel
theorem dJ9_min_7cf53_1 : decode cJ9_min_7cf53 1 = .ok (.iload_n 1, 1) := by decide +kernel
theorem dJ9_min_7cf53_2 : decode cJ9_min_7cf53 2 = .ok (.if_icmp .gt 7, 3) := by decide +kernel
theorem dJ9_min_7cf53_5 : decode cJ9_min_7cf53 5 = .ok (.iload_n 0, 1) := by decide +kernel
theorem dJ9_min_7cf53_6 : decode cJ9_min_7cf53 6 = .ok (.goto 4, 3) := by decide +kernel
theorem dJ9_min_7cf53_9 : decode cJ9_min_7cf53 9 = .ok (.iload_n 1, 1) := by decide +kernel
theorem dJ9_min_7cf53_10 : decode cJ9_min_7cf53 10 = .ok (.ireturn, 1) := by decide +kernel
set_option maxRecDepth 20000 in
theorem ggJ0_length_8abf5_J0_coder_7d493 : GoodIn wsJ0_length_8abf5 wsJ0_coder_7d493 := goodIn_r _ [6, 7, 8] rfl (by decide +kernel)
set_option maxRecDepth 20000 in
theorem gJ0_length_8abf5_J0_coder_7d493 : GoodIn wsJ0_length_8abf5 (wsV RJ0 335 RJ0 yJ0_coder_7d493 wsJ0_coder_7d493) := goodIn_app (goodIn_of _ (by decide +kernel)) ggJ0_length_8abf5_J0_coder_7d493
theorem dJ0_length_8abf5_0 : decode cJ0_length_8abf5 0 = .ok (.aload_n 0, 1) := by decide +kernel
theorem dJ0_length_8abf5_1 : decode cJ0_length_8abf5 1 = .ok (.getfield 9, 3) := by decide +kernel
theorem dJ0_length_8abf5_4 : decode cJ0_length_8abf5 4 = .ok (.arraylength, 1) := by decide +kernel
theorem dJ0_length_8abf5_5 : decode cJ0_length_8abf5 5 = .ok (.aload_n 0, 1) := by decide +kernel
theorem dJ0_length_8abf5_6 : decode cJ0_length_8abf5 6 = .ok (.invokevirtual 335, 3) := by decide +kernel
theorem dJ0_length_8abf5_9 : decode cJ0_length_8abf5 9 = .ok (.ishr, 1) := by decide +kernel
theorem dJ0_length_8abf5_10 : decode cJ0_length_8abf5 10 = .ok (.ireturn, 1) := by decide +kernel
set_option maxRecDepth 20000 in
theorem ggJ0_indexOf_0f7a4_J0_indexOf_7cf53 : GoodIn wsJ0_indexOf_0f7a4 wsJ0_indexOf_7cf53 := goodIn_r _ [5, 6, 7, 8, 9, 4, 10, 11, 12, 13, 14, 15, 16, 17, 18, 19, 20, 21, 22, 23, 24, 25, 26, 27, 28, 29, 30, 31, 32, 33, 34, 35, 36, 37, 38, 39, 40, 41, 42, 43, 44, 45, 46, 47, 48, 49, 50, 51, 52, 53, 54, 55, 56, 57, 58, 59, 60, 61, 62, 63, 64, 65, 66, 67, 68, 69, 70, 71, 72, 73, 74, 75, 76, 77, 78, 79, 80, 81, 82, 83, 84, 85] rfl (by decide +kernel)
set_option maxRecDepth 20000 in
theorem gJ0_indexOf_0f7a4_J0_indexOf_7cf53 : GoodIn wsJ0_indexOf_0f7a4 (wsV RJ0 633 RJ0 yJ0_indexOf_7cf53 wsJ0_indexOf_7cf53) := goodIn_app (goodIn_of _ (by decide +kernel)) ggJ0_indexOf_0f7a4_J0_indexOf_7cf53
theorem dJ0_indexOf_0f7a4_0 : decode cJ0_indexOf_0f7a4 0 = .ok (.aload_n 0, 1) := by decide +kernel
theorem dJ0_indexOf_0f7a4_1 : decode cJ0_indexOf_0f7a4 1 = .ok (.iload_n 1, 1) := by decide +kernel
theorem dJ0_indexOf_0f7a4_2 : decode cJ0_indexOf_0f7a4 2 = .ok (.iconst 0, 1) := by decide +kernel
theorem dJ0_indexOf_0f7a4_3 : decode cJ0_indexOf_0f7a4 3 = .ok (.invokevirtual 633, 3) := by decide +kernel
theorem dJ0_indexOf_0f7a4_6 : decode cJ0_indexOf_0f7a4 6 = .ok (.ireturn, 1) := by decide +kernel
set_option maxRecDepth 20000 in
theorem ggJ0_indexOf_7cf53_J0_isLatin1_aae02 : GoodIn wsJ0_indexOf_7cf53 wsJ0_isLatin1_aae02 := goodIn_r _ [6, 7, 8] rfl (by decide +kernel)
set_option maxRecDepth 20000 in
theorem gJ0_indexOf_7cf53_J0_isLatin1_aae02 : GoodIn wsJ0_indexOf_7cf53 (wsV RJ0 492 RJ0 yJ0_isLatin1_aae02 wsJ0_isLatin1_aae02) := goodIn_app (goodIn_of _ (by decide +kernel)) ggJ0_indexOf_7cf53_J0_isLatin1_aae02
set_option maxRecDepth 20000 in
theorem ggJ0_indexOf_7cf53_J0_length_8abf5 : GoodIn wsJ0_indexOf_7cf53 wsJ0_length_8abf5 := goodIn_r _ [12, 1, 13, 14, 15, 5, 16, 7, 8] rfl (by decide +kernel)
set_option maxRecDepth 20000 in
theorem gJ0_indexOf_7cf53_J0_length_8abf5 : GoodIn wsJ0_indexOf_7cf53 (wsV RJ0 505 RJ0 yJ0_length_8abf5 wsJ0_length_8abf5) := goodIn_app (goodIn_of _ (by decide +kernel)) ggJ0_indexOf_7cf53_J0_length_8abf5
set_option maxRecDepth 20000 in
theorem ggJ0_indexOf_7cf53_J1_indexOf_4cfef : GoodIn wsJ0_indexOf_7cf53 wsJ1_indexOf_4cfef := goodIn_r _ [20, 21, 22, 23, 24, 25, 26, 27, 28, 29, 19, 30, 31, 32, 33] rfl (by decide +kernel)
set_option maxRecDepth 20000 in
theorem gJ0_indexOf_7cf53_J1_indexOf_4cfef : GoodIn wsJ0_indexOf_7cf53 (va_wsS RJ0 637 yJ1_indexOf_4cfef wsJ1_indexOf_4cfef) := goodIn_app (goodIn_of _ (by decide +kernel)) ggJ0_indexOf_7cf53_J1_indexOf_4cfef
set_option maxRecDepth 20000 in
theorem ggJ0_indexOf_7cf53_J2_indexOf_4cfef : GoodIn wsJ0_indexOf_7cf53 wsJ2_indexOf_4cfef := goodIn_r _ [37, 38, 22, 23, 24, 39, 26, 27, 40, 41, 42, 36, 43, 44, 45, 46, 47, 48, 49, 50, 51, 5, 52, 53, 54, 55, 56, 57, 58, 59, 60, 61, 62, 63, 64, 65, 66, 67, 68, 69, 70, 71, 72, 73, 74, 75, 76, 77, 78, 79, 80, 81] rfl (by decide +kernel)
set_option maxRecDepth 20000 in
theorem gJ0_indexOf_7cf53_J2_indexOf_4cfef : GoodIn wsJ0_indexOf_7cf53 (va_wsS RJ0 640 yJ2_indexOf_4cfef wsJ2_indexOf_4cfef) := goodIn_app (goodIn_of _ (by decide +kernel)) ggJ0_indexOf_7cf53_J2_indexOf_4cfef
theorem dJ0_indexOf_7cf53_0 : decode cJ0_indexOf_7cf53 0 = .ok (.aload_n 0, 1) := by decide +kernel
theorem dJ0_indexOf_7cf53_1 : decode cJ0_indexOf_7cf53 1 = .ok (.invokevirtual 492, 3) := by decide +kernel
theorem dJ0_indexOf_7cf53_4 : decode cJ0_indexOf_7cf53 4 = .ok (.ifCond .eq 19, 3) := by decide +kernel
theorem dJ0_indexOf_7cf53_7 : decode cJ0_indexOf_7cf53 7 = .ok (.aload_n 0, 1) := by decide +kernel
theorem dJ0_indexOf_7cf53_8 : decode cJ0_indexOf_7cf53 8 = .ok (.getfield 9, 3) := by decide +kernel
theorem dJ0_indexOf_7cf53_11 : decode cJ0_indexOf_7cf53 11 = .ok (.iload_n 1, 1) := by decide +kernel
theorem dJ0_indexOf_7cf53_12 : decode cJ0_indexOf_7cf53 12 = .ok (.iload_n 2, 1) := by decide +kernel
theorem dJ0_indexOf_7cf53_13 : decode cJ0_indexOf_7cf53 13 = .ok (.aload_n 0, 1) := by decide +kernel
theorem dJ0_indexOf_7cf53_14 : decode cJ0_indexOf_7cf53 14 = .ok (.invokevirtual 505, 3) := by decide +kernel
theorem dJ0_indexOf_7cf53_17 : decode cJ0_indexOf_7cf53 17 = .ok (.invokestatic 637, 3) := by decide +kernel
theorem dJ0_indexOf_7cf53_20 : decode cJ0_indexOf_7cf53 20 = .ok (.goto 16, 3) := by decide +kernel
theorem dJ0_indexOf_7cf53_23 : decode cJ0_indexOf_7cf53 23 = .ok (.aload_n 0, 1) := by decide +kernel
theorem dJ0_indexOf_7cf53_24 : decode cJ0_indexOf_7cf53 24 = .ok (.getfield 9, 3) := by decide +kernel
theorem dJ0_indexOf_7cf53_27 : decode cJ0_indexOf_7cf53 27 = .ok (.iload_n 1, 1) := by decide +kernel
theorem dJ0_indexOf_7cf53_28 : decode cJ0_indexOf_7cf53 28 = .ok (.iload_n 2, 1) := by decide +kernel
theorem dJ0_indexOf_7cf53_29 : decode cJ0_indexOf_7cf53 29 = .ok (.aload_n 0, 1) := by decide +kernel
theorem dJ0_indexOf_7cf53_30 : decode cJ0_indexOf_7cf53 30 = .ok (.invokevirtual 505, 3) := by decide +kernel
theorem dJ0_indexOf_7cf53_33 : decode cJ0_indexOf_7cf53 33 = .ok (.invokestatic 640, 3) := by decide +kernel
theorem dJ0_indexOf_7cf53_36 : decode cJ0_indexOf_7cf53 36 = .ok (.ireturn, 1) := by decide +kernel
theorem dJ0_coder_7d493_0 : decode cJ0_coder_7d493 0 = .ok (.getstatic 38, 3) := by decide +kernel
theorem dJ0_coder_7d493_3 : decode cJ0_coder_7d493 3 = .ok (.ifCond .eq 10, 3) := by decide +kernel
theorem dJ0_coder_7d493_6 : decode cJ0_coder_7d493 6 = .ok (.aload_n 0, 1) := by decide +kernel
theorem dJ0_coder_7d493_7 : decode cJ0_coder_7d493 7 = .ok (.getfield 15, 3) := by decide +kernel
theorem dJ0_coder_7d493_10 : decode cJ0_coder_7d493 10 = .ok (.goto 4, 3) := by decide +kernel
theorem dJ0_coder_7d493_13 : decode cJ0_coder_7d493 13 = .ok (.iconst 1, 1) := by decide +kernel
theorem dJ0_coder_7d493_14 : decode cJ0_coder_7d493 14 = .ok (.ireturn, 1) := by decide +kernel
theorem dJ0_isLatin1_aae02_0 : decode cJ0_isLatin1_aae02 0 = .ok (.getstatic 38, 3) := by decide +kernel
theorem dJ0_isLatin1_aae02_3 : decode cJ0_isLatin1_aae02 3 = .ok (.ifCond .eq 14, 3) := by decide +kernel
theorem dJ0_isLatin1_aae02_6 : decode cJ0_isLatin1_aae02 6 = .ok (.aload_n 0, 1) := by decide +kernel
theorem dJ0_isLatin1_aae02_7 : decode cJ0_isLatin1_aae02 7 = .ok (.getfield 15, 3) := by decide +kernel
theorem dJ0_isLatin1_aae02_10 : decode cJ0_isLatin1_aae02 10 = .ok (.ifCond .ne 7, 3) := by decide +kernel
theorem dJ0_isLatin1_aae02_13 : decode cJ0_isLatin1_aae02 13 = .ok (.iconst 1, 1) := by decide +kernel
theorem dJ0_isLatin1_aae02_14 : decode cJ0_isLatin1_aae02 14 = .ok (.goto 4, 3) := by decide +kernel
theorem dJ0_isLatin1_aae02_17 : decode cJ0_isLatin1_aae02 17 = .ok (.iconst 0, 1) := by decide +kernel
theorem dJ0_isLatin1_aae02_18 : decode cJ0_isLatin1_aae02 18 = .ok (.ireturn, 1) := by decide +kernel
set_option maxRecDepth 20000 in
theorem ggJ0_checkBoundsBeginEnd_23922_J3_checkFromToIndex_8c36e : GoodIn wsJ0_checkBoundsBeginEnd_23922 wsJ3_checkFromToIndex_8c36e := goodIn_r _ [5] rfl (by decide +kernel)
set_option maxRecDepth 20000 in
theorem gJ0_checkBoundsBeginEnd_23922_J3_checkFromToIndex_8c36e : GoodIn wsJ0_checkBoundsBeginEnd_23922 (va_wsS RJ0 1062 yJ3_checkFromToIndex_8c36e wsJ3_checkFromToIndex_8c36e) := goodIn_app (goodIn_of _ (by decide +kernel)) ggJ0_checkBoundsBeginEnd_23922_J3_checkFromToIndex_8c36e
theorem dJ0_checkBoundsBeginEnd_23922_0 : decode cJ0_checkBoundsBeginEnd_23922 0 = .ok (.iload_n 0, 1) := by decide +kernel
theorem dJ0_checkBoundsBeginEnd_23922_1 : decode cJ0_checkBoundsBeginEnd_23922 1 = .ok (.iload_n 1, 1) := by decide +kernel
theorem dJ0_checkBoundsBeginEnd_23922_2 : decode cJ0_checkBoundsBeginEnd_23922 2 = .ok (.iload_n 2, 1) := by decide +kernel
theorem dJ0_checkBoundsBeginEnd_23922_3 : decode cJ0_checkBoundsBeginEnd_23922 3 = .ok (.getstatic 1053, 3) := by decide +kernel
theorem dJ0_checkBoundsBeginEnd_23922_6 : decode cJ0_checkBoundsBeginEnd_23922 6 = .ok (.invokestatic 1062, 3) := by decide +kernel
theorem dJ0_checkBoundsBeginEnd_23922_9 : decode cJ0_checkBoundsBeginEnd_23922 9 = .ok (.pop, 1) := by decide +kernel
theorem dJ0_checkBoundsBeginEnd_23922_10 : decode cJ0_checkBoundsBeginEnd_23922 10 = .ok (.return_, 1) := by decide +kernel
theorem dJ1_canEncode_9a6ad_0 : decode cJ1_canEncode_9a6ad 0 = .ok (.iload_n 0, 1) := by decide +kernel
theorem dJ1_canEncode_9a6ad_1 : decode cJ1_canEncode_9a6ad 1 = .ok (.ifCond .lt 14, 3) := by decide +kernel
theorem dJ1_canEncode_9a6ad_4 : decode cJ1_canEncode_9a6ad 4 = .ok (.iload_n 0, 1) := by decide +kernel
theorem dJ1_canEncode_9a6ad_5 : decode cJ1_canEncode_9a6ad 5 = .ok (.sipush 255, 3) := by decide +kernel
theorem dJ1_canEncode_9a6ad_8 : decode cJ1_canEncode_9a6ad 8 = .ok (.if_icmp .gt 7, 3) := by decide +kernel
theorem dJ1_canEncode_9a6ad_11 : decode cJ1_canEncode_9a6ad 11 = .ok (.iconst 1, 1) := by decide +kernel
theorem dJ1_canEncode_9a6ad_12 : decode cJ1_canEncode_9a6ad 12 = .ok (.goto 4, 3) := by decide +kernel
theorem dJ1_canEncode_9a6ad_15 : decode cJ1_canEncode_9a6ad 15 = .ok (.iconst 0, 1) := by decide +kernel
theorem dJ1_canEncode_9a6ad_16 : decode cJ1_canEncode_9a6ad 16 = .ok (.ireturn, 1) := by decide +kernel
set_option maxRecDepth 20000 in
theorem ggJ1_indexOf_4cfef_J1_canEncode_9a6ad : GoodIn wsJ1_indexOf_4cfef wsJ1_canEncode_9a6ad := goodIn_r _ [11] rfl (by decide +kernel)
set_option maxRecDepth 20000 in
theorem gJ1_indexOf_4cfef_J1_canEncode_9a6ad : GoodIn wsJ1_indexOf_4cfef (va_wsS RJ1 88 yJ1_canEncode_9a6ad wsJ1_canEncode_9a6ad) := goodIn_app (goodIn_of _ (by decide +kernel)) ggJ1_indexOf_4cfef_J1_canEncode_9a6ad
set_option maxRecDepth 20000 in
theorem ggJ1_indexOf_4cfef_J1_indexOfChar_4cfef : GoodIn wsJ1_indexOf_4cfef wsJ1_indexOfChar_4cfef := goodIn_r _ [14] rfl (by decide +kernel)
set_option maxRecDepth 20000 in
theorem gJ1_indexOf_4cfef_J1_indexOfChar_4cfef : GoodIn wsJ1_indexOf_4cfef (va_wsS RJ1 95 yJ1_indexOfChar_4cfef wsJ1_indexOfChar_4cfef) := goodIn_app (goodIn_of _ (by decide +kernel)) ggJ1_indexOf_4cfef_J1_indexOfChar_4cfef
theorem dJ1_indexOf_4cfef_0 : decode cJ1_indexOf_4cfef 0 = .ok (.iload_n 1, 1) := by decide +kernel
theorem dJ1_indexOf_4cfef_1 : decode cJ1_indexOf_4cfef 1 = .ok (.invokestatic 88, 3) := by decide +kernel
theorem dJ1_indexOf_4cfef_4 : decode cJ1_indexOf_4cfef 4 = .ok (.ifCond .ne 5, 3) := by decide +kernel
theorem dJ1_indexOf_4cfef_7 : decode cJ1_indexOf_4cfef 7 = .ok (.iconst (-1), 1) := by decide +kernel
theorem dJ1_indexOf_4cfef_8 : decode cJ1_indexOf_4cfef 8 = .ok (.ireturn, 1) := by decide +kernel
theorem dJ1_indexOf_4cfef_9 : decode cJ1_indexOf_4cfef 9 = .ok (.iload_n 2, 1) := by decide +kernel
theorem dJ1_indexOf_4cfef_10 : decode cJ1_indexOf_4cfef 10 = .ok (.iconst 0, 1) := by decide +kernel
theorem dJ1_indexOf_4cfef_11 : decode cJ1_indexOf_4cfef 11 = .ok (.invokestatic 92, 3) := by decide +kernel
theorem dJ1_indexOf_4cfef_14 : decode cJ1_indexOf_4cfef 14 = .ok (.istore_n 2, 1) := by decide +kernel
theorem dJ1_indexOf_4cfef_15 : decode cJ1_indexOf_4cfef 15 = .ok (.iload_n 3, 1) := by decide +kernel
theorem dJ1_indexOf_4cfef_16 : decode cJ1_indexOf_4cfef 16 = .ok (.aload_n 0, 1) := by decide +kernel
theorem dJ1_indexOf_4cfef_17 : decode cJ1_indexOf_4cfef 17 = .ok (.arraylength, 1) := by decide +kernel
theorem dJ1_indexOf_4cfef_18 : decode cJ1_indexOf_4cfef 18 = .ok (.invokestatic 38, 3) := by decide +kernel
theorem dJ1_indexOf_4cfef_21 : decode cJ1_indexOf_4cfef 21 = .ok (.istore_n 3, 1) := by decide +kernel
theorem dJ1_indexOf_4cfef_22 : decode cJ1_indexOf_4cfef 22 = .ok (.iload_n 2, 1) := by decide +kernel
theorem dJ1_indexOf_4cfef_23 : decode cJ1_indexOf_4cfef 23 = .ok (.iload_n 3, 1) := by decide +kernel
theorem dJ1_indexOf_4cfef_24 : decode cJ1_indexOf_4cfef 24 = .ok (.if_icmp .lt 5, 3) := by decide +kernel
theorem dJ1_indexOf_4cfef_27 : decode cJ1_indexOf_4cfef 27 = .ok (.iconst (-1), 1) := by decide +kernel
theorem dJ1_indexOf_4cfef_28 : decode cJ1_indexOf_4cfef 28 = .ok (.ireturn, 1) := by decide +kernel
theorem dJ1_indexOf_4cfef_29 : decode cJ1_indexOf_4cfef 29 = .ok (.aload_n 0, 1) := by decide +kernel
theorem dJ1_indexOf_4cfef_30 : decode cJ1_indexOf_4cfef 30 = .ok (.iload_n 1, 1) := by decide +kernel
theorem dJ1_indexOf_4cfef_31 : decode cJ1_indexOf_4cfef 31 = .ok (.iload_n 2, 1) := by decide +kernel
theorem dJ1_indexOf_4cfef_32 : decode cJ1_indexOf_4cfef 32 = .ok (.iload_n 3, 1) := by decide +kernel
theorem dJ1_indexOf_4cfef_33 : decode cJ1_indexOf_4cfef 33 = .ok (.invokestatic 95, 3) := by decide +kernel
theorem dJ1_indexOf_4cfef_36 : decode cJ1_indexOf_4cfef 36 = .ok (.ireturn, 1) := by decide +kernel
theorem dJ1_indexOfChar_4cfef_0 : decode cJ1_indexOfChar_4cfef 0 = .ok (.iload_n 1, 1) := by decide +kernel
theorem dJ1_indexOfChar_4cfef_1 : decode cJ1_indexOfChar_4cfef 1 = .ok (.i2b, 1) := by decide +kernel
theorem dJ1_indexOfChar_4cfef_2 : decode cJ1_indexOfChar_4cfef 2 = .ok (.istore 4, 2) := by decide +kernel
theorem dJ1_indexOfChar_4cfef_4 : decode cJ1_indexOfChar_4cfef 4 = .ok (.iload_n 2, 1) := by decide +kernel
theorem dJ1_indexOfChar_4cfef_5 : decode cJ1_indexOfChar_4cfef 5 = .ok (.istore 5, 2) := by decide +kernel
theorem dJ1_indexOfChar_4cfef_7 : decode cJ1_indexOfChar_4cfef 7 = .ok (.iload 5, 2) := by decide +kernel
theorem dJ1_indexOfChar_4cfef_9 : decode cJ1_indexOfChar_4cfef 9 = .ok (.iload_n 3, 1) := by decide +kernel
theorem dJ1_indexOfChar_4cfef_10 : decode cJ1_indexOfChar_4cfef 10 = .ok (.if_icmp .ge 21, 3) := by decide +kernel
theorem dJ1_indexOfChar_4cfef_13 : decode cJ1_indexOfChar_4cfef 13 = .ok (.aload_n 0, 1) := by decide +kernel
theorem dJ1_indexOfChar_4cfef_14 : decode cJ1_indexOfChar_4cfef 14 = .ok (.iload 5, 2) := by decide +kernel
theorem dJ1_indexOfChar_4cfef_16 : decode cJ1_indexOfChar_4cfef 16 = .ok (.baload, 1) := by decide +kernel
theorem dJ1_indexOfChar_4cfef_17 : decode cJ1_indexOfChar_4cfef 17 = .ok (.iload 4, 2) := by decide +kernel
theorem dJ1_indexOfChar_4cfef_19 : decode cJ1_indexOfChar_4cfef 19 = .ok (.if_icmp .ne 6, 3) := by decide +kernel
theorem dJ1_indexOfChar_4cfef_22 : decode cJ1_indexOfChar_4cfef 22 = .ok (.iload 5, 2) := by decide +kernel
theorem dJ1_indexOfChar_4cfef_24 : decode cJ1_indexOfChar_4cfef 24 = .ok (.ireturn, 1) := by decide +kernel
theorem dJ1_indexOfChar_4cfef_25 : decode cJ1_indexOfChar_4cfef 25 = .ok (.iinc 5 1, 3) := by decide +kernel
theorem dJ1_indexOfChar_4cfef_28 : decode cJ1_indexOfChar_4cfef 28 = .ok (.goto (-21), 3) := by decide +kernel
theorem dJ1_indexOfChar_4cfef_31 : decode cJ1_indexOfChar_4cfef 31 = .ok (.iconst (-1), 1) := by decide +kernel
theorem dJ1_indexOfChar_4cfef_32 : decode cJ1_indexOfChar_4cfef 32 = .ok (.ireturn, 1) := by decide +kernel
set_option maxRecDepth 20000 in
theorem ggJ2_getChar_3b067_J2_length_9d52b : GoodIn wsJ2_getChar_3b067 wsJ2_length_9d52b := goodIn_r _ [7] rfl (by decide +kernel)
set_option maxRecDepth 20000 in
theorem gJ2_getChar_3b067_J2_length_9d52b : GoodIn wsJ2_getChar_3b067 (va_wsS RJ2 48 yJ2_length_9d52b wsJ2_length_9d52b) := goodIn_app (goodIn_of _ (by decide +kernel)) ggJ2_getChar_3b067_J2_length_9d52b
theorem dJ2_getChar_3b067_0 : decode cJ2_getChar_3b067 0 = .ok (.getstatic 44, 3) := by decide +kernel
theorem dJ2_getChar_3b067_3 : decode cJ2_getChar_3b067 3 = .ok (.ifCond .ne 25, 3) := by decide +kernel
theorem dJ2_getChar_3b067_6 : decode cJ2_getChar_3b067 6 = .ok (.iload_n 1, 1) := by decide +kernel
theorem dJ2_getChar_3b067_7 : decode cJ2_getChar_3b067 7 = .ok (.ifCond .lt 11, 3) := by decide +kernel
theorem dJ2_getChar_3b067_10 : decode cJ2_getChar_3b067 10 = .ok (.iload_n 1, 1) := by decide +kernel
theorem dJ2_getChar_3b067_11 : decode cJ2_getChar_3b067 11 = .ok (.aload_n 0, 1) := by decide +kernel
theorem dJ2_getChar_3b067_12 : decode cJ2_getChar_3b067 12 = .ok (.invokestatic 48, 3) := by decide +kernel
theorem dJ2_getChar_3b067_15 : decode cJ2_getChar_3b067 15 = .ok (.if_icmp .lt 13, 3) := by decide +kernel
theorem dJ2_getChar_3b067_18 : decode cJ2_getChar_3b067 18 = .ok (.new 52, 3) := by decide +kernel
theorem dJ2_getChar_3b067_21 : decode cJ2_getChar_3b067 21 = .ok (.dup, 1) := by decide +kernel
theorem dJ2_getChar_3b067_22 : decode cJ2_getChar_3b067 22 = .ok (.ldc 54, 2) := by decide +kernel
theorem dJ2_getChar_3b067_24 : decode cJ2_getChar_3b067 24 = .ok (.invokespecial 56, 3) := by decide +kernel
theorem dJ2_getChar_3b067_27 : decode cJ2_getChar_3b067 27 = .ok (.athrow, 1) := by decide +kernel
theorem dJ2_getChar_3b067_28 : decode cJ2_getChar_3b067 28 = .ok (.iload_n 1, 1) := by decide +kernel
theorem dJ2_getChar_3b067_29 : decode cJ2_getChar_3b067 29 = .ok (.iconst 1, 1) := by decide +kernel
theorem dJ2_getChar_3b067_30 : decode cJ2_getChar_3b067 30 = .ok (.ishl, 1) := by decide +kernel
theorem dJ2_getChar_3b067_31 : decode cJ2_getChar_3b067 31 = .ok (.istore_n 1, 1) := by decide +kernel
theorem dJ2_getChar_3b067_32 : decode cJ2_getChar_3b067 32 = .ok (.aload_n 0, 1) := by decide +kernel
theorem dJ2_getChar_3b067_33 : decode cJ2_getChar_3b067 33 = .ok (.iload_n 1, 1) := by decide +kernel
theorem dJ2_getChar_3b067_34 : decode cJ2_getChar_3b067 34 = .ok (.iinc 1 1, 3) := by decide +kernel
theorem dJ2_getChar_3b067_37 : decode cJ2_getChar_3b067 37 = .ok (.baload, 1) := by decide +kernel
theorem dJ2_getChar_3b067_38 : decode cJ2_getChar_3b067 38 = .ok (.sipush 255, 3) := by decide +kernel
theorem dJ2_getChar_3b067_41 : decode cJ2_getChar_3b067 41 = .ok (.iand, 1) := by decide +kernel
theorem dJ2_getChar_3b067_42 : decode cJ2_getChar_3b067 42 = .ok (.getstatic 59, 3) := by decide +kernel
theorem dJ2_getChar_3b067_45 : decode cJ2_getChar_3b067 45 = .ok (.ishl, 1) := by decide +kernel
theorem dJ2_getChar_3b067_46 : decode cJ2_getChar_3b067 46 = .ok (.aload_n 0, 1) := by decide +kernel
theorem dJ2_getChar_3b067_47 : decode cJ2_getChar_3b067 47 = .ok (.iload_n 1, 1) := by decide +kernel
theorem dJ2_getChar_3b067_48 : decode cJ2_getChar_3b067 48 = .ok (.baload, 1) := by decide +kernel
theorem dJ2_getChar_3b067_49 : decode cJ2_getChar_3b067 49 = .ok (.sipush 255, 3) := by decide +kernel
theorem dJ2_getChar_3b067_52 : decode cJ2_getChar_3b067 52 = .ok (.iand, 1) := by decide +kernel
theorem dJ2_getChar_3b067_53 : decode cJ2_getChar_3b067 53 = .ok (.getstatic 63, 3) := by decide +kernel
theorem dJ2_getChar_3b067_56 : decode cJ2_getChar_3b067 56 = .ok (.ishl, 1) := by decide +kernel
theorem dJ2_getChar_3b067_57 : decode cJ2_getChar_3b067 57 = .ok (.ior, 1) := by decide +kernel
theorem dJ2_getChar_3b067_58 : decode cJ2_getChar_3b067 58 = .ok (.i2c, 1) := by decide +kernel
theorem dJ2_getChar_3b067_59 : decode cJ2_getChar_3b067 59 = .ok (.ireturn, 1) := by decide +kernel
theorem dJ2_length_9d52b_0 : decode cJ2_length_9d52b 0 = .ok (.aload_n 0, 1) := by decide +kernel
theorem dJ2_length_9d52b_1 : decode cJ2_length_9d52b 1 = .ok (.arraylength, 1) := by decide +kernel
theorem dJ2_length_9d52b_2 : decode cJ2_length_9d52b 2 = .ok (.iconst 1, 1) := by decide +kernel
theorem dJ2_length_9d52b_3 : decode cJ2_length_9d52b 3 = .ok (.ishr, 1) := by decide +kernel
theorem dJ2_length_9d52b_4 : decode cJ2_length_9d52b 4 = .ok (.ireturn, 1) := by decide +kernel
set_option maxRecDepth 20000 in
theorem ggJ2_indexOf_4cfef_J2_indexOfChar_4cfef : GoodIn wsJ2_indexOf_4cfef wsJ2_indexOfChar_4cfef := goodIn_r _ [12, 13, 14, 11, 15, 16, 17, 18, 19, 20, 21, 22, 23, 24, 25, 26, 27, 28, 29, 30, 31, 32, 33, 34, 35, 36] rfl (by decide +kernel)
set_option maxRecDepth 20000 in
theorem gJ2_indexOf_4cfef_J2_indexOfChar_4cfef : GoodIn wsJ2_indexOf_4cfef (va_wsS RJ2 228 yJ2_indexOfChar_4cfef wsJ2_indexOfChar_4cfef) := goodIn_app (goodIn_of _ (by decide +kernel)) ggJ2_indexOf_4cfef_J2_indexOfChar_4cfef
set_option maxRecDepth 20000 in
theorem ggJ2_indexOf_4cfef_J2_indexOfSupplementary_4cfef : GoodIn wsJ2_indexOf_4cfef wsJ2_indexOfSupplementary_4cfef := goodIn_r _ [39, 40, 41, 42, 43, 44, 45, 46, 47, 48, 49, 50, 51, 13, 14, 11, 15, 16, 17, 18, 19, 20, 21, 22, 23, 24, 25, 26, 27, 31, 32, 33, 34, 35, 36] rfl (by decide +kernel)
set_option maxRecDepth 20000 in
theorem gJ2_indexOf_4cfef_J2_indexOfSupplementary_4cfef : GoodIn wsJ2_indexOf_4cfef (va_wsS RJ2 232 yJ2_indexOfSupplementary_4cfef wsJ2_indexOfSupplementary_4cfef) := goodIn_app (goodIn_of _ (by decide +kernel)) ggJ2_indexOf_4cfef_J2_indexOfSupplementary_4cfef
theorem dJ2_indexOf_4cfef_0 : decode cJ2_indexOf_4cfef 0 = .ok (.iload_n 2, 1) := by decide +kernel
theorem dJ2_indexOf_4cfef_1 : decode cJ2_indexOf_4cfef 1 = .ok (.iconst 0, 1) := by decide +kernel
theorem dJ2_indexOf_4cfef_2 : decode cJ2_indexOf_4cfef 2 = .ok (.invokestatic 224, 3) := by decide +kernel
theorem dJ2_indexOf_4cfef_5 : decode cJ2_indexOf_4cfef 5 = .ok (.istore_n 2, 1) := by decide +kernel
theorem dJ2_indexOf_4cfef_6 : decode cJ2_indexOf_4cfef 6 = .ok (.iload_n 3, 1) := by decide +kernel
theorem dJ2_indexOf_4cfef_7 : decode cJ2_indexOf_4cfef 7 = .ok (.aload_n 0, 1) := by decide +kernel
theorem dJ2_indexOf_4cfef_8 : decode cJ2_indexOf_4cfef 8 = .ok (.arraylength, 1) := by decide +kernel
theorem dJ2_indexOf_4cfef_9 : decode cJ2_indexOf_4cfef 9 = .ok (.iconst 1, 1) := by decide +kernel
theorem dJ2_indexOf_4cfef_10 : decode cJ2_indexOf_4cfef 10 = .ok (.ishr, 1) := by decide +kernel
theorem dJ2_indexOf_4cfef_11 : decode cJ2_indexOf_4cfef 11 = .ok (.invokestatic 183, 3) := by decide +kernel
theorem dJ2_indexOf_4cfef_14 : decode cJ2_indexOf_4cfef 14 = .ok (.istore_n 3, 1) := by decide +kernel
theorem dJ2_indexOf_4cfef_15 : decode cJ2_indexOf_4cfef 15 = .ok (.iload_n 2, 1) := by decide +kernel
theorem dJ2_indexOf_4cfef_16 : decode cJ2_indexOf_4cfef 16 = .ok (.iload_n 3, 1) := by decide +kernel
theorem dJ2_indexOf_4cfef_17 : decode cJ2_indexOf_4cfef 17 = .ok (.if_icmp .lt 5, 3) := by decide +kernel
theorem dJ2_indexOf_4cfef_20 : decode cJ2_indexOf_4cfef 20 = .ok (.iconst (-1), 1) := by decide +kernel
theorem dJ2_indexOf_4cfef_21 : decode cJ2_indexOf_4cfef 21 = .ok (.ireturn, 1) := by decide +kernel
theorem dJ2_indexOf_4cfef_22 : decode cJ2_indexOf_4cfef 22 = .ok (.iload_n 1, 1) := by decide +kernel
theorem dJ2_indexOf_4cfef_23 : decode cJ2_indexOf_4cfef 23 = .ok (.ldc 227, 2) := by decide +kernel
theorem dJ2_indexOf_4cfef_25 : decode cJ2_indexOf_4cfef 25 = .ok (.if_icmp .ge 11, 3) := by decide +kernel
theorem dJ2_indexOf_4cfef_28 : decode cJ2_indexOf_4cfef 28 = .ok (.aload_n 0, 1) := by decide +kernel
theorem dJ2_indexOf_4cfef_29 : decode cJ2_indexOf_4cfef 29 = .ok (.iload_n 1, 1) := by decide +kernel
theorem dJ2_indexOf_4cfef_30 : decode cJ2_indexOf_4cfef 30 = .ok (.iload_n 2, 1) := by decide +kernel
theorem dJ2_indexOf_4cfef_31 : decode cJ2_indexOf_4cfef 31 = .ok (.iload_n 3, 1) := by decide +kernel
theorem dJ2_indexOf_4cfef_32 : decode cJ2_indexOf_4cfef 32 = .ok (.invokestatic 228, 3) := by decide +kernel
theorem dJ2_indexOf_4cfef_35 : decode cJ2_indexOf_4cfef 35 = .ok (.ireturn, 1) := by decide +kernel
theorem dJ2_indexOf_4cfef_36 : decode cJ2_indexOf_4cfef 36 = .ok (.aload_n 0, 1) := by decide +kernel
theorem dJ2_indexOf_4cfef_37 : decode cJ2_indexOf_4cfef 37 = .ok (.iload_n 1, 1) := by decide +kernel
theorem dJ2_indexOf_4cfef_38 : decode cJ2_indexOf_4cfef 38 = .ok (.iload_n 2, 1) := by decide +kernel
theorem dJ2_indexOf_4cfef_39 : decode cJ2_indexOf_4cfef 39 = .ok (.iload_n 3, 1) := by decide +kernel
theorem dJ2_indexOf_4cfef_40 : decode cJ2_indexOf_4cfef 40 = .ok (.invokestatic 232, 3) := by decide +kernel
theorem dJ2_indexOf_4cfef_43 : decode cJ2_indexOf_4cfef 43 = .ok (.ireturn, 1) := by decide +kernel
set_option maxRecDepth 20000 in
theorem ggJ2_indexOfChar_4cfef_J2_checkBoundsBeginEnd_d044e : GoodIn wsJ2_indexOfChar_4cfef wsJ2_checkBoundsBeginEnd_d044e := goodIn_r _ [4, 5, 6, 3, 7, 8, 9, 10, 11, 12, 13, 14, 15, 16] rfl (by decide +kernel)
set_option maxRecDepth 20000 in
theorem gJ2_indexOfChar_4cfef_J2_checkBoundsBeginEnd_d044e : GoodIn wsJ2_indexOfChar_4cfef (va_wsS RJ2 96 yJ2_checkBoundsBeginEnd_d044e wsJ2_checkBoundsBeginEnd_d044e) := goodIn_app (goodIn_of _ (by decide +kernel)) ggJ2_indexOfChar_4cfef_J2_checkBoundsBeginEnd_d044e
set_option maxRecDepth 20000 in
theorem ggJ2_indexOfChar_4cfef_J2_indexOfCharUnsafe_4cfef : GoodIn wsJ2_indexOfChar_4cfef wsJ2_indexOfCharUnsafe_4cfef := goodIn_r _ [19, 20, 21, 3, 22, 23, 24, 25, 5, 6, 7] rfl (by decide +kernel)
set_option maxRecDepth 20000 in
theorem gJ2_indexOfChar_4cfef_J2_indexOfCharUnsafe_4cfef : GoodIn wsJ2_indexOfChar_4cfef (va_wsS RJ2 244 yJ2_indexOfCharUnsafe_4cfef wsJ2_indexOfCharUnsafe_4cfef) := goodIn_app (goodIn_of _ (by decide +kernel)) ggJ2_indexOfChar_4cfef_J2_indexOfCharUnsafe_4cfef
theorem dJ2_indexOfChar_4cfef_0 : decode cJ2_indexOfChar_4cfef 0 = .ok (.iload_n 2, 1) := by decide +kernel
theorem dJ2_indexOfChar_4cfef_1 : decode cJ2_indexOfChar_4cfef 1 = .ok (.iload_n 3, 1) := by decide +kernel
theorem dJ2_indexOfChar_4cfef_2 : decode cJ2_indexOfChar_4cfef 2 = .ok (.aload_n 0, 1) := by decide +kernel
theorem dJ2_indexOfChar_4cfef_3 : decode cJ2_indexOfChar_4cfef 3 = .ok (.invokestatic 96, 3) := by decide +kernel
theorem dJ2_indexOfChar_4cfef_6 : decode cJ2_indexOfChar_4cfef 6 = .ok (.aload_n 0, 1) := by decide +kernel
theorem dJ2_indexOfChar_4cfef_7 : decode cJ2_indexOfChar_4cfef 7 = .ok (.iload_n 1, 1) := by decide +kernel
theorem dJ2_indexOfChar_4cfef_8 : decode cJ2_indexOfChar_4cfef 8 = .ok (.iload_n 2, 1) := by decide +kernel
theorem dJ2_indexOfChar_4cfef_9 : decode cJ2_indexOfChar_4cfef 9 = .ok (.iload_n 3, 1) := by decide +kernel
theorem dJ2_indexOfChar_4cfef_10 : decode cJ2_indexOfChar_4cfef 10 = .ok (.invokestatic 244, 3) := by decide +kernel
theorem dJ2_indexOfChar_4cfef_13 : decode cJ2_indexOfChar_4cfef 13 = .ok (.ireturn, 1) := by decide +kernel
set_option maxRecDepth 20000 in
theorem ggJ2_indexOfCharUnsafe_4cfef_J2_getChar_3b067 : GoodIn wsJ2_indexOfCharUnsafe_4cfef wsJ2_getChar_3b067 := goodIn_r _ [4, 5, 6, 7, 8, 9, 3, 10] rfl (by decide +kernel)
set_option maxRecDepth 20000 in
theorem gJ2_indexOfCharUnsafe_4cfef_J2_getChar_3b067 : GoodIn wsJ2_indexOfCharUnsafe_4cfef (va_wsS RJ2 71 yJ2_getChar_3b067 wsJ2_getChar_3b067) := goodIn_app (goodIn_of _ (by decide +kernel)) ggJ2_indexOfCharUnsafe_4cfef_J2_getChar_3b067
theorem dJ2_indexOfCharUnsafe_4cfef_0 : decode cJ2_indexOfCharUnsafe_4cfef 0 = .ok (.iload_n 2, 1) := by decide +kernel
theorem dJ2_indexOfCharUnsafe_4cfef_1 : decode cJ2_indexOfCharUnsafe_4cfef 1 = .ok (.istore 4, 2) := by decide +kernel
theorem dJ2_indexOfCharUnsafe_4cfef_3 : decode cJ2_indexOfCharUnsafe_4cfef 3 = .ok (.iload 4, 2) := by decide +kernel
theorem dJ2_indexOfCharUnsafe_4cfef_5 : decode cJ2_indexOfCharUnsafe_4cfef 5 = .ok (.iload_n 3, 1) := by decide +kernel
theorem dJ2_indexOfCharUnsafe_4cfef_6 : decode cJ2_indexOfCharUnsafe_4cfef 6 = .ok (.if_icmp .ge 22, 3) := by decide +kernel
theorem dJ2_indexOfCharUnsafe_4cfef_9 : decode cJ2_indexOfCharUnsafe_4cfef 9 = .ok (.aload_n 0, 1) := by decide +kernel
theorem dJ2_indexOfCharUnsafe_4cfef_10 : decode cJ2_indexOfCharUnsafe_4cfef 10 = .ok (.iload 4, 2) := by decide +kernel
theorem dJ2_indexOfCharUnsafe_4cfef_12 : decode cJ2_indexOfCharUnsafe_4cfef 12 = .ok (.invokestatic 71, 3) := by decide +kernel
theorem dJ2_indexOfCharUnsafe_4cfef_15 : decode cJ2_indexOfCharUnsafe_4cfef 15 = .ok (.iload_n 1, 1) := by decide +kernel
theorem dJ2_indexOfCharUnsafe_4cfef_16 : decode cJ2_indexOfCharUnsafe_4cfef 16 = .ok (.if_icmp .ne 6, 3) := by decide +kernel
theorem dJ2_indexOfCharUnsafe_4cfef_19 : decode cJ2_indexOfCharUnsafe_4cfef 19 = .ok (.iload 4, 2) := by decide +kernel
theorem dJ2_indexOfCharUnsafe_4cfef_21 : decode cJ2_indexOfCharUnsafe_4cfef 21 = .ok (.ireturn, 1) := by decide +kernel
theorem dJ2_indexOfCharUnsafe_4cfef_22 : decode cJ2_indexOfCharUnsafe_4cfef 22 = .ok (.iinc 4 1, 3) := by decide +kernel
theorem dJ2_indexOfCharUnsafe_4cfef_25 : decode cJ2_indexOfCharUnsafe_4cfef 25 = .ok (.goto (-22), 3) := by decide +kernel
theorem dJ2_indexOfCharUnsafe_4cfef_28 : decode cJ2_indexOfCharUnsafe_4cfef 28 = .ok (.iconst (-1), 1) := by decide +kernel
theorem dJ2_indexOfCharUnsafe_4cfef_29 : decode cJ2_indexOfCharUnsafe_4cfef 29 = .ok (.ireturn, 1) := by decide +kernel
set_option maxRecDepth 20000 in
theorem ggJ2_indexOfSupplementary_4cfef_J11_isValidCodePoint_9a6ad : GoodIn wsJ2_indexOfSupplementary_4cfef wsJ11_isValidCodePoint_9a6ad := goodIn_r _ [4] rfl (by decide +kernel)
set_option maxRecDepth 20000 in
theorem gJ2_indexOfSupplementary_4cfef_J11_isValidCodePoint_9a6ad : GoodIn wsJ2_indexOfSupplementary_4cfef (va_wsS RJ2 164 yJ11_isValidCodePoint_9a6ad wsJ11_isValidCodePoint_9a6ad) := goodIn_app (goodIn_of _ (by decide +kernel)) ggJ2_indexOfSupplementary_4cfef_J11_isValidCodePoint_9a6ad
set_option maxRecDepth 20000 in
theorem ggJ2_indexOfSupplementary_4cfef_J11_highSurrogate_5068e : GoodIn wsJ2_indexOfSupplementary_4cfef wsJ11_highSurrogate_5068e := goodIn_r _ [7, 8] rfl (by decide +kernel)
set_option maxRecDepth 20000 in
theorem gJ2_indexOfSupplementary_4cfef_J11_highSurrogate_5068e : GoodIn wsJ2_indexOfSupplementary_4cfef (va_wsS RJ2 157 yJ11_highSurrogate_5068e wsJ11_highSurrogate_5068e) := goodIn_app (goodIn_of _ (by decide +kernel)) ggJ2_indexOfSupplementary_4cfef_J11_highSurrogate_5068e
set_option maxRecDepth 20000 in
theorem ggJ2_indexOfSupplementary_4cfef_J11_lowSurrogate_5068e : GoodIn wsJ2_indexOfSupplementary_4cfef wsJ11_lowSurrogate_5068e := goodIn_r _ [11, 12] rfl (by decide +kernel)
set_option maxRecDepth 20000 in
theorem gJ2_indexOfSupplementary_4cfef_J11_lowSurrogate_5068e : GoodIn wsJ2_indexOfSupplementary_4cfef (va_wsS RJ2 161 yJ11_lowSurrogate_5068e wsJ11_lowSurrogate_5068e) := goodIn_app (goodIn_of _ (by decide +kernel)) ggJ2_indexOfSupplementary_4cfef_J11_lowSurrogate_5068e
set_option maxRecDepth 20000 in
theorem ggJ2_indexOfSupplementary_4cfef_J2_checkBoundsBeginEnd_d044e : GoodIn wsJ2_indexOfSupplementary_4cfef wsJ2_checkBoundsBeginEnd_d044e := goodIn_r _ [16, 17, 18, 15, 19, 20, 21, 22, 23, 24, 25, 26, 27, 28] rfl (by decide +kernel)
set_option maxRecDepth 20000 in
theorem gJ2_indexOfSupplementary_4cfef_J2_checkBoundsBeginEnd_d044e : GoodIn wsJ2_indexOfSupplementary_4cfef (va_wsS RJ2 96 yJ2_checkBoundsBeginEnd_d044e wsJ2_checkBoundsBeginEnd_d044e) := goodIn_app (goodIn_of _ (by decide +kernel)) ggJ2_indexOfSupplementary_4cfef_J2_checkBoundsBeginEnd_d044e
set_option maxRecDepth 20000 in
theorem ggJ2_indexOfSupplementary_4cfef_J2_getChar_3b067 : GoodIn wsJ2_indexOfSupplementary_4cfef wsJ2_getChar_3b067 := goodIn_r _ [31, 32, 33, 34, 17, 18, 15, 19] rfl (by decide +kernel)
set_option maxRecDepth 20000 in
theorem gJ2_indexOfSupplementary_4cfef_J2_getChar_3b067 : GoodIn wsJ2_indexOfSupplementary_4cfef (va_wsS RJ2 71 yJ2_getChar_3b067 wsJ2_getChar_3b067) := goodIn_app (goodIn_of _ (by decide +kernel)) ggJ2_indexOfSupplementary_4cfef_J2_getChar_3b067
theorem dJ2_indexOfSupplementary_4cfef_0 : decode cJ2_indexOfSupplementary_4cfef 0 = .ok (.iload_n 1, 1) := by decide +kernel
theorem dJ2_indexOfSupplementary_4cfef_1 : decode cJ2_indexOfSupplementary_4cfef 1 = .ok (.invokestatic 164, 3) := by decide +kernel
theorem dJ2_indexOfSupplementary_4cfef_4 : decode cJ2_indexOfSupplementary_4cfef 4 = .ok (.ifCond .eq 65, 3) := by decide +kernel
theorem dJ2_indexOfSupplementary_4cfef_7 : decode cJ2_indexOfSupplementary_4cfef 7 = .ok (.iload_n 1, 1) := by decide +kernel
theorem dJ2_indexOfSupplementary_4cfef_8 : decode cJ2_indexOfSupplementary_4cfef 8 = .ok (.invokestatic 157, 3) := by decide +kernel
theorem dJ2_indexOfSupplementary_4cfef_11 : decode cJ2_indexOfSupplementary_4cfef 11 = .ok (.istore 4, 2) := by decide +kernel
theorem dJ2_indexOfSupplementary_4cfef_13 : decode cJ2_indexOfSupplementary_4cfef 13 = .ok (.iload_n 1, 1) := by decide +kernel
theorem dJ2_indexOfSupplementary_4cfef_14 : decode cJ2_indexOfSupplementary_4cfef 14 = .ok (.invokestatic 161, 3) := by decide +kernel
theorem dJ2_indexOfSupplementary_4cfef_17 : decode cJ2_indexOfSupplementary_4cfef 17 = .ok (.istore 5, 2) := by decide +kernel
theorem dJ2_indexOfSupplementary_4cfef_19 : decode cJ2_indexOfSupplementary_4cfef 19 = .ok (.iload_n 2, 1) := by decide +kernel
theorem dJ2_indexOfSupplementary_4cfef_20 : decode cJ2_indexOfSupplementary_4cfef 20 = .ok (.iload_n 3, 1) := by decide +kernel
theorem dJ2_indexOfSupplementary_4cfef_21 : decode cJ2_indexOfSupplementary_4cfef 21 = .ok (.aload_n 0, 1) := by decide +kernel
theorem dJ2_indexOfSupplementary_4cfef_22 : decode cJ2_indexOfSupplementary_4cfef 22 = .ok (.invokestatic 96, 3) := by decide +kernel
theorem dJ2_indexOfSupplementary_4cfef_25 : decode cJ2_indexOfSupplementary_4cfef 25 = .ok (.iload_n 2, 1) := by decide +kernel
theorem dJ2_indexOfSupplementary_4cfef_26 : decode cJ2_indexOfSupplementary_4cfef 26 = .ok (.istore 6, 2) := by decide +kernel
theorem dJ2_indexOfSupplementary_4cfef_28 : decode cJ2_indexOfSupplementary_4cfef 28 = .ok (.iload 6, 2) := by decide +kernel
theorem dJ2_indexOfSupplementary_4cfef_30 : decode cJ2_indexOfSupplementary_4cfef 30 = .ok (.iload_n 3, 1) := by decide +kernel
theorem dJ2_indexOfSupplementary_4cfef_31 : decode cJ2_indexOfSupplementary_4cfef 31 = .ok (.iconst 1, 1) := by decide +kernel
theorem dJ2_indexOfSupplementary_4cfef_32 : decode cJ2_indexOfSupplementary_4cfef 32 = .ok (.isub, 1) := by decide +kernel
theorem dJ2_indexOfSupplementary_4cfef_33 : decode cJ2_indexOfSupplementary_4cfef 33 = .ok (.if_icmp .ge 36, 3) := by decide +kernel
theorem dJ2_indexOfSupplementary_4cfef_36 : decode cJ2_indexOfSupplementary_4cfef 36 = .ok (.aload_n 0, 1) := by decide +kernel
theorem dJ2_indexOfSupplementary_4cfef_37 : decode cJ2_indexOfSupplementary_4cfef 37 = .ok (.iload 6, 2) := by decide +kernel
theorem dJ2_indexOfSupplementary_4cfef_39 : decode cJ2_indexOfSupplementary_4cfef 39 = .ok (.invokestatic 71, 3) := by decide +kernel
theorem dJ2_indexOfSupplementary_4cfef_42 : decode cJ2_indexOfSupplementary_4cfef 42 = .ok (.iload 4, 2) := by decide +kernel
theorem dJ2_indexOfSupplementary_4cfef_44 : decode cJ2_indexOfSupplementary_4cfef 44 = .ok (.if_icmp .ne 19, 3) := by decide +kernel
theorem dJ2_indexOfSupplementary_4cfef_47 : decode cJ2_indexOfSupplementary_4cfef 47 = .ok (.aload_n 0, 1) := by decide +kernel
theorem dJ2_indexOfSupplementary_4cfef_48 : decode cJ2_indexOfSupplementary_4cfef 48 = .ok (.iload 6, 2) := by decide +kernel
theorem dJ2_indexOfSupplementary_4cfef_50 : decode cJ2_indexOfSupplementary_4cfef 50 = .ok (.iconst 1, 1) := by decide +kernel
theorem dJ2_indexOfSupplementary_4cfef_51 : decode cJ2_indexOfSupplementary_4cfef 51 = .ok (.iadd, 1) := by decide +kernel
theorem dJ2_indexOfSupplementary_4cfef_52 : decode cJ2_indexOfSupplementary_4cfef 52 = .ok (.invokestatic 71, 3) := by decide +kernel
theorem dJ2_indexOfSupplementary_4cfef_55 : decode cJ2_indexOfSupplementary_4cfef 55 = .ok (.iload 5, 2) := by decide +kernel
theorem dJ2_indexOfSupplementary_4cfef_57 : decode cJ2_indexOfSupplementary_4cfef 57 = .ok (.if_icmp .ne 6, 3) := by decide +kernel
theorem dJ2_indexOfSupplementary_4cfef_60 : decode cJ2_indexOfSupplementary_4cfef 60 = .ok (.iload 6, 2) := by decide +kernel
theorem dJ2_indexOfSupplementary_4cfef_62 : decode cJ2_indexOfSupplementary_4cfef 62 = .ok (.ireturn, 1) := by decide +kernel
theorem dJ2_indexOfSupplementary_4cfef_63 : decode cJ2_indexOfSupplementary_4cfef 63 = .ok (.iinc 6 1, 3) := by decide +kernel
theorem dJ2_indexOfSupplementary_4cfef_66 : decode cJ2_indexOfSupplementary_4cfef 66 = .ok (.goto (-38), 3) := by decide +kernel
theorem dJ2_indexOfSupplementary_4cfef_69 : decode cJ2_indexOfSupplementary_4cfef 69 = .ok (.iconst (-1), 1) := by decide +kernel
theorem dJ2_indexOfSupplementary_4cfef_70 : decode cJ2_indexOfSupplementary_4cfef 70 = .ok (.ireturn, 1) := by decide +kernel
set_option maxRecDepth 20000 in
theorem ggJ2_checkBoundsBeginEnd_d044e_J2_length_9d52b : GoodIn wsJ2_checkBoundsBeginEnd_d044e wsJ2_length_9d52b := goodIn_r _ [4] rfl (by decide +kernel)
set_option maxRecDepth 20000 in
theorem gJ2_checkBoundsBeginEnd_d044e_J2_length_9d52b : GoodIn wsJ2_checkBoundsBeginEnd_d044e (va_wsS RJ2 48 yJ2_length_9d52b wsJ2_length_9d52b) := goodIn_app (goodIn_of _ (by decide +kernel)) ggJ2_checkBoundsBeginEnd_d044e_J2_length_9d52b
set_option maxRecDepth 20000 in
theorem ggJ2_checkBoundsBeginEnd_d044e_J0_checkBoundsBeginEnd_23922 : GoodIn wsJ2_checkBoundsBeginEnd_d044e wsJ0_checkBoundsBeginEnd_23922 := goodIn_r _ [8, 9, 10, 11, 12, 13] rfl (by decide +kernel)
set_option maxRecDepth 20000 in
theorem gJ2_checkBoundsBeginEnd_d044e_J0_checkBoundsBeginEnd_23922 : GoodIn wsJ2_checkBoundsBeginEnd_d044e (va_wsS RJ2 241 yJ0_checkBoundsBeginEnd_23922 wsJ0_checkBoundsBeginEnd_23922) := goodIn_app (goodIn_of _ (by decide +kernel)) ggJ2_checkBoundsBeginEnd_d044e_J0_checkBoundsBeginEnd_23922
theorem dJ2_checkBoundsBeginEnd_d044e_0 : decode cJ2_checkBoundsBeginEnd_d044e 0 = .ok (.iload_n 0, 1) := by decide +kernel
theorem dJ2_checkBoundsBeginEnd_d044e_1 : decode cJ2_checkBoundsBeginEnd_d044e 1 = .ok (.iload_n 1, 1) := by decide +kernel
theorem dJ2_checkBoundsBeginEnd_d044e_2 : decode cJ2_checkBoundsBeginEnd_d044e 2 = .ok (.aload_n 2, 1) := by decide +kernel
theorem dJ2_checkBoundsBeginEnd_d044e_3 : decode cJ2_checkBoundsBeginEnd_d044e 3 = .ok (.invokestatic 48, 3) := by decide +kernel
theorem dJ2_checkBoundsBeginEnd_d044e_6 : decode cJ2_checkBoundsBeginEnd_d044e 6 = .ok (.invokestatic 241, 3) := by decide +kernel
theorem dJ2_checkBoundsBeginEnd_d044e_9 : decode cJ2_checkBoundsBeginEnd_d044e 9 = .ok (.return_, 1) := by decide +kernel
theorem dJ3_checkFromToIndex_8c36e_0 : decode cJ3_checkFromToIndex_8c36e 0 = .ok (.iload_n 0, 1) := by decide +kernel
theorem dJ3_checkFromToIndex_8c36e_1 : decode cJ3_checkFromToIndex_8c36e 1 = .ok (.ifCond .lt 13, 3) := by decide +kernel
theorem dJ3_checkFromToIndex_8c36e_4 : decode cJ3_checkFromToIndex_8c36e 4 = .ok (.iload_n 0, 1) := by decide +kernel
theorem dJ3_checkFromToIndex_8c36e_5 : decode cJ3_checkFromToIndex_8c36e 5 = .ok (.iload_n 1, 1) := by decide +kernel
theorem dJ3_checkFromToIndex_8c36e_6 : decode cJ3_checkFromToIndex_8c36e 6 = .ok (.if_icmp .gt 8, 3) := by decide +kernel
theorem dJ3_checkFromToIndex_8c36e_9 : decode cJ3_checkFromToIndex_8c36e 9 = .ok (.iload_n 1, 1) := by decide +kernel
theorem dJ3_checkFromToIndex_8c36e_10 : decode cJ3_checkFromToIndex_8c36e 10 = .ok (.iload_n 2, 1) := by decide +kernel
theorem dJ3_checkFromToIndex_8c36e_11 : decode cJ3_checkFromToIndex_8c36e 11 = .ok (.if_icmp .le 11, 3) := by decide +kernel
theorem dJ3_checkFromToIndex_8c36e_14 : decode cJ3_checkFromToIndex_8c36e 14 = .ok (.aload_n 3, 1) := by decide +kernel
theorem dJ3_checkFromToIndex_8c36e_15 : decode cJ3_checkFromToIndex_8c36e 15 = .ok (.iload_n 0, 1) := by decide +kernel
theorem dJ3_checkFromToIndex_8c36e_16 : decode cJ3_checkFromToIndex_8c36e 16 = .ok (.iload_n 1, 1) := by decide +kernel
theorem dJ3_checkFromToIndex_8c36e_17 : decode cJ3_checkFromToIndex_8c36e 17 = .ok (.iload_n 2, 1) := by decide +kernel
theorem dJ3_checkFromToIndex_8c36e_18 : decode cJ3_checkFromToIndex_8c36e 18 = .ok (.invokestatic 99, 3) := by decide +kernel
theorem dJ3_checkFromToIndex_8c36e_21 : decode cJ3_checkFromToIndex_8c36e 21 = .ok (.athrow, 1) := by decide +kernel
theorem dJ3_checkFromToIndex_8c36e_22 : decode cJ3_checkFromToIndex_8c36e 22 = .ok (.iload_n 0, 1) := by decide +kernel
theorem dJ3_checkFromToIndex_8c36e_23 : decode cJ3_checkFromToIndex_8c36e 23 = .ok (.ireturn, 1) := by decide +kernel

/-! the text constant "bnert": what the JDK's methods read -/
def xKs (ad av : Nat) (A : Nat → Prop) (U : State) : Prop :=
  vk_S 1 [5] [[98, 110, 101, 114, 116]] (fun _ => ad) (fun _ => av) A U U.heap ∧ va_Z RJ0 "COMPACT_STRINGS" "Z" (.int 1) A U U.heap ∧ vk_R RX3 49 "bnert" ad U
theorem xKs_call {ad av : Nat} {A : Nat → Prop} {U : State} {g : JFrame} {mk : MethodId} {a : Array Value} (h : xKs ad av A U) : xKs ad av A (U.calling g mk a) :=
  ⟨vk_S.moved (u := U) (U := U.calling g mk a) (Vm.Alike.refl U.vm) h.1, va_Z.moved (u := U) (U := U.calling g mk a) (Vm.Alike.refl U.vm) h.2.1, vk_R.same (u := U) (U := U.calling g mk a) rfl h.2.2⟩
theorem xKs_use {ad av : Nat} {A B : Nat → Prop} {s : State} {H : Heap} {locs : List Loc} (h : xKs ad av A s) (hS : va_S A s.heap H locs) (hB : ∀ q, B q → A q) : ∀ U : State, U.heap = H → s.WarmedH U.vm → xKs ad av B U := fun U hU hW =>
  ⟨vk_S.moved hW.alike (by rw [hU]; exact (h.1.kept hS.2.1).narrow hB), va_Z.moved hW.alike (by rw [hU]; exact (h.2.1.kept hS.2.1).narrow hB), vk_R.warm hW h.2.2⟩
def sPc (D : va_G) (ad av : Nat) (args : List Value) (ws : va_W) (tys : List (ClassId × FieldType)) : Array Value → State → Prop := va_Pc args (fun U => va_P D vwCl ws U.heap ∧ va_K D vwCl tys U ∧ xKs ad av (fun _ => False) U)
theorem sPc_bl {D : va_G} {ad av : Nat} {args : List Value} {ws : va_W} {tys : List (ClassId × FieldType)} : FrameBlind (sPc D ad av args ws tys) := fun a U g mk q => by
  obtain ⟨q0, qP, qK, qX⟩ := q
  exact ⟨q0, qP, va_K.moved (u := U) (U := U.calling g mk a) (Vm.Alike.refl U.vm) qK, xKs_call qX⟩
theorem sPc_use {D : va_G} {ad av : Nat} {args : List Value} {ws : va_W} {tys : List (ClassId × FieldType)} {s : State} {H : Heap} (hP : va_P D vwCl ws H) (hK : va_K D vwCl tys s) (hX : ∀ U : State, U.heap = H → s.WarmedH U.vm → xKs ad av (fun _ => False) U) : ∀ U : State, U.heap = H → s.WarmedH U.vm → sPc D ad av args ws tys args.toArray U := fun U hU hW => ⟨rfl, by rw [hU]; exact hP, va_K.moved hW.alike hK, hX U hU hW⟩
def wPcS (D : va_G) (ad av : Nat) (args : List Value) (ws : va_W) (tys : List (ClassId × FieldType)) (sz : Nat) : Array Value → State → Prop := va_Pc args (fun U => U.heap.size = sz ∧ va_P D vwCl ws U.heap ∧ va_K D vwCl tys U ∧ va_D (fun _ => True) ws ∧ xKs ad av (va_A ws sz) U)
theorem wPcS_bl {D : va_G} {ad av : Nat} {args : List Value} {ws : va_W} {tys : List (ClassId × FieldType)} {sz : Nat} : FrameBlind (wPcS D ad av args ws tys sz) := fun a U g mk q => by
  obtain ⟨q0, q1, qP, qK, qD, qX⟩ := q
  exact ⟨q0, q1, qP, va_K.moved (u := U) (U := U.calling g mk a) (Vm.Alike.refl U.vm) qK, qD, xKs_call qX⟩
theorem wPcS_use {D : va_G} {ad av : Nat} {args : List Value} {ws : va_W} {tys : List (ClassId × FieldType)} {s : State} {H : Heap} {A : Nat → Prop} (hP : va_P D vwCl ws H) (hK : va_K D vwCl tys s) (hD : va_D A ws) (hX : ∀ U : State, U.heap = H → s.WarmedH U.vm → xKs ad av (va_A ws H.size) U) : ∀ U : State, U.heap = H → s.WarmedH U.vm → wPcS D ad av args ws tys H.size args.toArray U := fun U hU hW =>
  ⟨rfl, by rw [hU], by rw [hU]; exact hP, va_K.moved hW.alike hK, hD.weaken (fun _ _ _ _ => trivial), hX U hU hW⟩
/-- the place of a byte among the five -/
def xKj (c : Int32) : Int32 := if 98 = c then 0 else if 110 = c then 1 else if 101 = c then 2 else if 114 = c then 3 else if 116 = c then 4 else -1
def xKi (c : Int32) : Int32 := if c = 98 then 0 else if c = 110 then 1 else if c = 101 then 2 else if c = 114 then 3 else if c = 116 then 4 else -1
theorem xKj_all : ∀ n, n < 256 → xKj (nI n).toInt8.toInt32 = xKi (nI n) := by decide +kernel
theorem xKj_in {c : Int32} (h1 : ¬ c < 0) (h2 : ¬ 255 < c) : xKj c.toInt8.toInt32 = xKi c := by
  obtain ⟨k, rfl, hk⟩ := xInN (n := 255) (by decide) h1 h2
  exact xKj_all k (by omega)
theorem xKi_lo {c : Int32} (h : c < 0) : xKi c = -1 := by
  have e : ∀ k : Int32, 0 ≤ k → ¬ c = k := fun k hk w => absurd (w ▸ h) (Int32.not_lt.mpr hk)
  simp only [xKi, if_neg (e 98 (by decide)), if_neg (e 110 (by decide)), if_neg (e 101 (by decide)), if_neg (e 114 (by decide)), if_neg (e 116 (by decide))]
theorem xKi_hi {c : Int32} (h : 255 < c) : xKi c = -1 := by
  have e : ∀ k : Int32, k ≤ 255 → ¬ c = k := fun k hk w => absurd (w ▸ h) (Int32.not_lt.mpr hk)
  simp only [xKi, if_neg (e 98 (by decide)), if_neg (e 110 (by decide)), if_neg (e 101 (by decide)), if_neg (e 114 (by decide)), if_neg (e 116 (by decide))]
def xCe (c : Int32) : Int32 := if c < 0 then 0 else if 255 < c then 0 else 1
/-- the kind that a letter names, -1 for none -/
def xKd (lt : Nat → Int32) (len p : Nat) : Int32 := if xAt lt len p < 0 then -1 else xKi ((xAt lt len p).toUInt32 % 65536).toInt32
theorem xCe_1 {c : Int32} (h : ¬ xCe c = 0) : ¬ c < 0 ∧ ¬ 255 < c := by
  unfold xCe at h
  by_cases h1 : c < 0
  · rw [if_pos h1] at h; exact absurd rfl h
  · rw [if_neg h1] at h
    by_cases h2 : 255 < c
    · rw [if_pos h2] at h; exact absurd rfl h
    · exact ⟨h1, h2⟩
theorem xCe_0 {c : Int32} (h : xCe c = 0) : xKi c = -1 := by
  unfold xCe at h
  by_cases h1 : c < 0
  · exact xKi_lo h1
  · rw [if_neg h1] at h
    by_cases h2 : 255 < c
    · exact xKi_hi h2
    · rw [if_neg h2] at h; exact absurd h (by decide)

set_option maxHeartbeats 4000000 in
set_option maxRecDepth 100000 in
theorem g_J0_isLatin1 (l : Launch) (D : va_G) (cI cL cZ cC : ClassId) (ad : Nat) (av : Nat)  : Met l yJ0_isLatin1_aae02 wsJ0_isLatin1_aae02 ({ frames := 0, cells := 0, slots := 0, locals := 0 } : Room) (sPc D ad av [.ref ad] [] (xTy cI cL cZ cC)) (vp_Si (fun r : Int32 => r = 1)) 0 0 (fun _ => False) := by
  refine Met.ofW (cc := cJ0_isLatin1_aae02) (maxL := 1) (ret := (some .boolean)) (by decide) rfl ?_
  intro p e s m args below meth c s₁ B hml hv
  obtain ⟨rfl, hP, hK, hX9⟩ := hv
  have hx := B.exec
  have hb := B.bytes
  have hr := B.returns
  have hts := atoms_spec (ws := wsJ0_isLatin1_aae02) B.pre
  have hown : s.vm.findClass RJ0 = some m.cls := findClass_of_methodNamed B.named
  have hlocks := B.notSynchronized
  have hl := lv_entry ([.ref ad]) (n := 1) (Nat.le_of_ble_eq_true rfl)
  rw [lg_entry_eq]
  generalize (lg_sl ([.ref ad]) ++ List.replicate (1 - (lg_sl ([.ref ad])).length) Slot.unset).toArray = ls at hl ⊢
  have hl : lv_has ls 1 [(0, .ref ad)] := hl
  refine va_gets hx hb hX9.2.1 va_S.rf hown (hts (.fieldLink RJ0 38 "java/lang/String" "COMPACT_STRINGS" "Z") (by decide +kernel)) (fun _ h9 => h9) dJ0_isLatin1_aae02_0 ?_
  refine lv_if_eq (tgt := 17) hx hb dJ0_isLatin1_aae02_3 (by decide) (fun c_1 => absurd c_1 (by decide +kernel)) (fun c_1 => ?_)
  refine lv_aload_n hx hb dJ0_isLatin1_aae02_6 rfl (lv_at hl 0 rfl) ?_
  refine vk_getf hx hb (hX9.1.1 0 (by decide)).2.1 va_S.rf hown (hts (.fieldLink RJ0 15 "java/lang/String" "coder" "B") (by decide +kernel)) (fun _ h9 => h9) dJ0_isLatin1_aae02_7 ?_
  refine lv_if_ne (tgt := 17) hx hb dJ0_isLatin1_aae02_10 (by decide) (fun c_2 => absurd c_2 (by decide +kernel)) (fun c_2 => ?_)
  refine lv_iconst (v := 1) hx hb dJ0_isLatin1_aae02_13 (by decide) ?_
  refine lv_goto (tgt := 18) hx hb dJ0_isLatin1_aae02_14 (by decide) ?_
  exact W.zret (v := 1) (ty := .boolean) hx hb hr (by decide +kernel) (fun t ht hW => ⟨_, rfl, rfl, ht⟩) (fun _ h => absurd h List.not_mem_nil) dJ0_isLatin1_aae02_18

set_option maxHeartbeats 4000000 in
set_option maxRecDepth 100000 in
theorem g_J0_coder (l : Launch) (D : va_G) (cI cL cZ cC : ClassId) (ad : Nat) (av : Nat)  : Met l yJ0_coder_7d493 wsJ0_coder_7d493 ({ frames := 0, cells := 0, slots := 0, locals := 0 } : Room) (sPc D ad av [.ref ad] [] (xTy cI cL cZ cC)) (vp_Si (fun r : Int32 => r = 0)) 0 0 (fun _ => False) := by
  refine Met.ofW (cc := cJ0_coder_7d493) (maxL := 1) (ret := (some .byte)) (by decide) rfl ?_
  intro p e s m args below meth c s₁ B hml hv
  obtain ⟨rfl, hP, hK, hX9⟩ := hv
  have hx := B.exec
  have hb := B.bytes
  have hr := B.returns
  have hts := atoms_spec (ws := wsJ0_coder_7d493) B.pre
  have hown : s.vm.findClass RJ0 = some m.cls := findClass_of_methodNamed B.named
  have hlocks := B.notSynchronized
  have hl := lv_entry ([.ref ad]) (n := 1) (Nat.le_of_ble_eq_true rfl)
  rw [lg_entry_eq]
  generalize (lg_sl ([.ref ad]) ++ List.replicate (1 - (lg_sl ([.ref ad])).length) Slot.unset).toArray = ls at hl ⊢
  have hl : lv_has ls 1 [(0, .ref ad)] := hl
  refine va_gets hx hb hX9.2.1 va_S.rf hown (hts (.fieldLink RJ0 38 "java/lang/String" "COMPACT_STRINGS" "Z") (by decide +kernel)) (fun _ h9 => h9) dJ0_coder_7d493_0 ?_
  refine lv_if_eq (tgt := 13) hx hb dJ0_coder_7d493_3 (by decide) (fun c_1 => absurd c_1 (by decide +kernel)) (fun c_1 => ?_)
  refine lv_aload_n hx hb dJ0_coder_7d493_6 rfl (lv_at hl 0 rfl) ?_
  refine vk_getf hx hb (hX9.1.1 0 (by decide)).2.1 va_S.rf hown (hts (.fieldLink RJ0 15 "java/lang/String" "coder" "B") (by decide +kernel)) (fun _ h9 => h9) dJ0_coder_7d493_7 ?_
  refine lv_goto (tgt := 14) hx hb dJ0_coder_7d493_10 (by decide) ?_
  exact W.zret (v := 0) (ty := .byte) hx hb hr (by decide +kernel) (fun t ht hW => ⟨_, rfl, rfl, ht⟩) (fun _ h => absurd h List.not_mem_nil) dJ0_coder_7d493_14

set_option maxHeartbeats 4000000 in
set_option maxRecDepth 100000 in
theorem g_J0_length (l : Launch) (D : va_G) (cI cL cZ cC : ClassId) (ad : Nat) (av : Nat)  : Met l yJ0_length_8abf5 wsJ0_length_8abf5 ({ frames := 1, cells := 0, slots := 0, locals := 20 } : Room) (sPc D ad av [.ref ad] [] (xTy cI cL cZ cC)) (vp_Si (fun r : Int32 => r = 5)) 0 0 (fun _ => False) := by
  refine Met.ofW (cc := cJ0_length_8abf5) (maxL := 1) (ret := (some .int)) (by decide) rfl ?_
  intro p e s m args below meth c s₁ B hml hv
  obtain ⟨rfl, hP, hK, hX9⟩ := hv
  have hx := B.exec
  have hb := B.bytes
  have hr := B.returns
  have hts := atoms_spec (ws := wsJ0_length_8abf5) B.pre
  have hown : s.vm.findClass RJ0 = some m.cls := findClass_of_methodNamed B.named
  have hlocks := B.notSynchronized
  have hl := lv_entry ([.ref ad]) (n := 1) (Nat.le_of_ble_eq_true rfl)
  rw [lg_entry_eq]
  generalize (lg_sl ([.ref ad]) ++ List.replicate (1 - (lg_sl ([.ref ad])).length) Slot.unset).toArray = ls at hl ⊢
  have hl : lv_has ls 1 [(0, .ref ad)] := hl
  refine lv_aload_n hx hb dJ0_length_8abf5_0 rfl (lv_at hl 0 rfl) ?_
  refine vk_getf hx hb (hX9.1.1 0 (by decide)).2.2.1 va_S.rf hown (hts (.fieldLink RJ0 9 "java/lang/String" "value" "[B") (by decide +kernel)) (fun _ h9 => h9) dJ0_length_8abf5_1 ?_
  refine va_tlen hx hb (hX9.1.1 0 (by decide)).2.2.2 va_S.rf (v := 5) (by decide +kernel) dJ0_length_8abf5_4 ?_
  refine lv_aload_n hx hb dJ0_length_8abf5_5 rfl (lv_at hl 0 rfl) ?_
  have hPc := hP.sub (ws' := []) [] rfl
  refine vp_callSi (va_Run.run (va_runV (As := []) (rest := [.int 5]) ⟨hx, hb, hml, hown, hts⟩ (g_J0_coder l D cI cL cZ cC ad av ) (cwV 0 hts gJ0_length_8abf5_J0_coder_7d493 rfl rfl rfl (by decide +kernel) ⟨Nat.le_of_ble_eq_true rfl, Nat.le_of_ble_eq_true rfl⟩) ⟨sPc_bl, vk_recv hX9.1 (i := 0) (by decide) va_S.rf, sPc_use hPc hK (xKs_use hX9 va_S.rf (fun _ h => h))⟩ rfl rfl hl.1 rfl (lv_room (Nat.le_of_ble_eq_true rfl)) dJ0_length_8abf5_6 ⟨Nat.le_of_ble_eq_true rfl, Nat.le_of_ble_eq_true rfl⟩)) (fun r_1 er_1 => ?_)
  obtain rfl : (0 : Int32) = r_1 := Eq.symm er_1
  refine lv_ishr hx hb dJ0_length_8abf5_9 ?_
  refine xv_int (y := 5) (by decide +kernel) ?_
  exact W.iret (v := 5) hx hb hr (fun t ht hW => ⟨_, rfl, rfl, ht⟩) (fun _ h => absurd h List.not_mem_nil) dJ0_length_8abf5_10

set_option maxHeartbeats 4000000 in
set_option maxRecDepth 100000 in
theorem g_J1_canEncode (l : Launch) (D : va_G) (cI cL cZ cC : ClassId) (c1 : Int32)  : Met l yJ1_canEncode_9a6ad wsJ1_canEncode_9a6ad ({ frames := 0, cells := 0, slots := 0, locals := 0 } : Room) (xPc D [.int c1] [] (xTy cI cL cZ cC)) (vp_Si (fun r : Int32 => r = xCe c1)) 0 0 (fun _ => False) := by
  refine Met.ofW (cc := cJ1_canEncode_9a6ad) (maxL := 1) (ret := (some .boolean)) (by decide) rfl ?_
  intro p e s m args below meth c s₁ B hml hv
  obtain ⟨rfl, hP, hK⟩ := hv
  have hx := B.exec
  have hb := B.bytes
  have hr := B.returns
  have hts := atoms_spec (ws := wsJ1_canEncode_9a6ad) B.pre
  have hown : s.vm.findClass RJ1 = some m.cls := findClass_of_methodNamed B.named
  have hlocks := B.notSynchronized
  have hl := lv_entry ([.int c1]) (n := 1) (Nat.le_of_ble_eq_true rfl)
  rw [lg_entry_eq]
  generalize (lg_sl ([.int c1]) ++ List.replicate (1 - (lg_sl ([.int c1])).length) Slot.unset).toArray = ls at hl ⊢
  have hl : lv_has ls 1 [(0, .int c1)] := hl
  refine lv_iload_n hx hb dJ1_canEncode_9a6ad_0 rfl (lv_at hl 0 rfl) ?_
  refine lv_if_lt (tgt := 15) hx hb dJ1_canEncode_9a6ad_1 (by decide) (fun c_1 => ?_) (fun c_1 => ?_)
  · refine lv_iconst (v := 0) hx hb dJ1_canEncode_9a6ad_15 (by decide) ?_
    exact W.zret (v := 0) (ty := .boolean) hx hb hr (by decide +kernel) (fun t ht hW => ⟨_, rfl, by simp [xCe, c_1], ht⟩) (fun _ h => absurd h List.not_mem_nil) dJ1_canEncode_9a6ad_16
  · refine lv_iload_n hx hb dJ1_canEncode_9a6ad_4 rfl (lv_at hl 0 rfl) ?_
    refine lv_sipush (v := 255) hx hb dJ1_canEncode_9a6ad_5 (by decide) ?_
    refine lv_icmp_gt (tgt := 15) hx hb dJ1_canEncode_9a6ad_8 (by decide) (fun c_2 => ?_) (fun c_2 => ?_)
    · refine lv_iconst (v := 0) hx hb dJ1_canEncode_9a6ad_15 (by decide) ?_
      exact W.zret (v := 0) (ty := .boolean) hx hb hr (by decide +kernel) (fun t ht hW => ⟨_, rfl, by simp [xCe, c_1, c_2], ht⟩) (fun _ h => absurd h List.not_mem_nil) dJ1_canEncode_9a6ad_16
    · refine lv_iconst (v := 1) hx hb dJ1_canEncode_9a6ad_11 (by decide) ?_
      refine lv_goto (tgt := 16) hx hb dJ1_canEncode_9a6ad_12 (by decide) ?_
      exact W.zret (v := 1) (ty := .boolean) hx hb hr (by decide +kernel) (fun t ht hW => ⟨_, rfl, by simp [xCe, c_1, c_2], ht⟩) (fun _ h => absurd h List.not_mem_nil) dJ1_canEncode_9a6ad_16

set_option maxHeartbeats 4000000 in
set_option maxRecDepth 100000 in
theorem g_J1_indexOfChar (l : Launch) (D : va_G) (cI cL cZ cC : ClassId) (ad : Nat) (av : Nat) (c1 : Int32)  : Met l yJ1_indexOfChar_4cfef wsJ1_indexOfChar_4cfef ({ frames := 0, cells := 0, slots := 0, locals := 0 } : Room) (sPc D ad av [.ref av, .int c1, .int 0, .int 5] [] (xTy cI cL cZ cC)) (vp_Si (fun r : Int32 => r = xKj c1.toInt8.toInt32)) 0 0 (fun _ => False) := by
  refine Met.ofW (cc := cJ1_indexOfChar_4cfef) (maxL := 6) (ret := (some .int)) (by decide) rfl ?_
  intro p e s m args below meth c s₁ B hml hv
  obtain ⟨rfl, hP, hK, hX9⟩ := hv
  have hx := B.exec
  have hb := B.bytes
  have hr := B.returns
  have hts := atoms_spec (ws := wsJ1_indexOfChar_4cfef) B.pre
  have hown : s.vm.findClass RJ1 = some m.cls := findClass_of_methodNamed B.named
  have hlocks := B.notSynchronized
  have hl := lv_entry ([.ref av, .int c1, .int 0, .int 5]) (n := 6) (Nat.le_of_ble_eq_true rfl)
  rw [lg_entry_eq]
  generalize (lg_sl ([.ref av, .int c1, .int 0, .int 5]) ++ List.replicate (6 - (lg_sl ([.ref av, .int c1, .int 0, .int 5])).length) Slot.unset).toArray = ls at hl ⊢
  have hl : lv_has ls 6 [(0, .ref av), (1, .int c1), (2, .int 0), (3, .int 5)] := hl
  refine lv_iload_n hx hb dJ1_indexOfChar_4cfef_0 rfl (lv_at hl 1 rfl) ?_
  refine lv_i2b (v := c1.toInt8.toInt32) hx hb dJ1_indexOfChar_4cfef_1 rfl ?_
  refine lv_istore (lv' := [(4, .int (c1.toInt8.toInt32)), (0, .ref av), (1, .int c1), (2, .int 0), (3, .int 5)]) hx hb dJ1_indexOfChar_4cfef_2 hl (by decide) rfl (fun ls hl => ?_)
  refine lv_iload_n hx hb dJ1_indexOfChar_4cfef_4 rfl (lv_at hl 3 rfl) ?_
  refine lv_istore (lv' := [(5, .int 0), (4, .int (c1.toInt8.toInt32)), (0, .ref av), (1, .int c1), (2, .int 0), (3, .int 5)]) hx hb dJ1_indexOfChar_4cfef_5 hl (by decide) rfl (fun ls hl => ?_)
  refine lv_iload hx hb dJ1_indexOfChar_4cfef_7 (lv_at hl 0 rfl) ?_
  refine lv_iload_n hx hb dJ1_indexOfChar_4cfef_9 rfl (lv_at hl 5 rfl) ?_
  refine lv_icmp_ge (tgt := 31) hx hb dJ1_indexOfChar_4cfef_10 (by decide) (fun c_1 => absurd c_1 (by decide +kernel)) (fun c_1 => ?_)
  refine lv_aload_n hx hb dJ1_indexOfChar_4cfef_13 rfl (lv_at hl 2 rfl) ?_
  refine lv_iload hx hb dJ1_indexOfChar_4cfef_14 (lv_at hl 0 rfl) ?_
  refine va_tb hx hb (hX9.1.1 0 (by decide)).2.2.2 va_S.rf (by unfold vp_in; decide +kernel) (v := .int 98) (by decide +kernel) dJ1_indexOfChar_4cfef_16 ?_
  refine lv_iload hx hb dJ1_indexOfChar_4cfef_17 (lv_at hl 1 rfl) ?_
  refine lv_icmp_ne (tgt := 25) hx hb dJ1_indexOfChar_4cfef_19 (by decide) (fun c_2 => ?_) (fun c_2 => ?_)
  · refine lv_iinc (v := 1) (lv' := [(5, .int 1), (4, .int (c1.toInt8.toInt32)), (0, .ref av), (1, .int c1), (2, .int 0), (3, .int 5)]) hx hb dJ1_indexOfChar_4cfef_25 hl (k := 0) rfl (by decide +kernel) (by decide) rfl (fun ls hl => ?_)
    refine lv_goto (tgt := 7) hx hb dJ1_indexOfChar_4cfef_28 (by decide) ?_
    refine lv_iload hx hb dJ1_indexOfChar_4cfef_7 (lv_at hl 0 rfl) ?_
    refine lv_iload_n hx hb dJ1_indexOfChar_4cfef_9 rfl (lv_at hl 5 rfl) ?_
    refine lv_icmp_ge (tgt := 31) hx hb dJ1_indexOfChar_4cfef_10 (by decide) (fun c_3 => absurd c_3 (by decide +kernel)) (fun c_3 => ?_)
    refine lv_aload_n hx hb dJ1_indexOfChar_4cfef_13 rfl (lv_at hl 2 rfl) ?_
    refine lv_iload hx hb dJ1_indexOfChar_4cfef_14 (lv_at hl 0 rfl) ?_
    refine va_tb hx hb (hX9.1.1 0 (by decide)).2.2.2 va_S.rf (by unfold vp_in; decide +kernel) (v := .int 110) (by decide +kernel) dJ1_indexOfChar_4cfef_16 ?_
    refine lv_iload hx hb dJ1_indexOfChar_4cfef_17 (lv_at hl 1 rfl) ?_
    refine lv_icmp_ne (tgt := 25) hx hb dJ1_indexOfChar_4cfef_19 (by decide) (fun c_4 => ?_) (fun c_4 => ?_)
    · refine lv_iinc (v := 2) (lv' := [(5, .int 2), (4, .int (c1.toInt8.toInt32)), (0, .ref av), (1, .int c1), (2, .int 0), (3, .int 5)]) hx hb dJ1_indexOfChar_4cfef_25 hl (k := 0) rfl (by decide +kernel) (by decide) rfl (fun ls hl => ?_)
      refine lv_goto (tgt := 7) hx hb dJ1_indexOfChar_4cfef_28 (by decide) ?_
      refine lv_iload hx hb dJ1_indexOfChar_4cfef_7 (lv_at hl 0 rfl) ?_
      refine lv_iload_n hx hb dJ1_indexOfChar_4cfef_9 rfl (lv_at hl 5 rfl) ?_
      refine lv_icmp_ge (tgt := 31) hx hb dJ1_indexOfChar_4cfef_10 (by decide) (fun c_5 => absurd c_5 (by decide +kernel)) (fun c_5 => ?_)
      refine lv_aload_n hx hb dJ1_indexOfChar_4cfef_13 rfl (lv_at hl 2 rfl) ?_
      refine lv_iload hx hb dJ1_indexOfChar_4cfef_14 (lv_at hl 0 rfl) ?_
      refine va_tb hx hb (hX9.1.1 0 (by decide)).2.2.2 va_S.rf (by unfold vp_in; decide +kernel) (v := .int 101) (by decide +kernel) dJ1_indexOfChar_4cfef_16 ?_
      refine lv_iload hx hb dJ1_indexOfChar_4cfef_17 (lv_at hl 1 rfl) ?_
      refine lv_icmp_ne (tgt := 25) hx hb dJ1_indexOfChar_4cfef_19 (by decide) (fun c_6 => ?_) (fun c_6 => ?_)
      · refine lv_iinc (v := 3) (lv' := [(5, .int 3), (4, .int (c1.toInt8.toInt32)), (0, .ref av), (1, .int c1), (2, .int 0), (3, .int 5)]) hx hb dJ1_indexOfChar_4cfef_25 hl (k := 0) rfl (by decide +kernel) (by decide) rfl (fun ls hl => ?_)
        refine lv_goto (tgt := 7) hx hb dJ1_indexOfChar_4cfef_28 (by decide) ?_
        refine lv_iload hx hb dJ1_indexOfChar_4cfef_7 (lv_at hl 0 rfl) ?_
        refine lv_iload_n hx hb dJ1_indexOfChar_4cfef_9 rfl (lv_at hl 5 rfl) ?_
        refine lv_icmp_ge (tgt := 31) hx hb dJ1_indexOfChar_4cfef_10 (by decide) (fun c_7 => absurd c_7 (by decide +kernel)) (fun c_7 => ?_)
        refine lv_aload_n hx hb dJ1_indexOfChar_4cfef_13 rfl (lv_at hl 2 rfl) ?_
        refine lv_iload hx hb dJ1_indexOfChar_4cfef_14 (lv_at hl 0 rfl) ?_
        refine va_tb hx hb (hX9.1.1 0 (by decide)).2.2.2 va_S.rf (by unfold vp_in; decide +kernel) (v := .int 114) (by decide +kernel) dJ1_indexOfChar_4cfef_16 ?_
        refine lv_iload hx hb dJ1_indexOfChar_4cfef_17 (lv_at hl 1 rfl) ?_
        refine lv_icmp_ne (tgt := 25) hx hb dJ1_indexOfChar_4cfef_19 (by decide) (fun c_8 => ?_) (fun c_8 => ?_)
        · refine lv_iinc (v := 4) (lv' := [(5, .int 4), (4, .int (c1.toInt8.toInt32)), (0, .ref av), (1, .int c1), (2, .int 0), (3, .int 5)]) hx hb dJ1_indexOfChar_4cfef_25 hl (k := 0) rfl (by decide +kernel) (by decide) rfl (fun ls hl => ?_)
          refine lv_goto (tgt := 7) hx hb dJ1_indexOfChar_4cfef_28 (by decide) ?_
          refine lv_iload hx hb dJ1_indexOfChar_4cfef_7 (lv_at hl 0 rfl) ?_
          refine lv_iload_n hx hb dJ1_indexOfChar_4cfef_9 rfl (lv_at hl 5 rfl) ?_
          refine lv_icmp_ge (tgt := 31) hx hb dJ1_indexOfChar_4cfef_10 (by decide) (fun c_9 => absurd c_9 (by decide +kernel)) (fun c_9 => ?_)
          refine lv_aload_n hx hb dJ1_indexOfChar_4cfef_13 rfl (lv_at hl 2 rfl) ?_
          refine lv_iload hx hb dJ1_indexOfChar_4cfef_14 (lv_at hl 0 rfl) ?_
          refine va_tb hx hb (hX9.1.1 0 (by decide)).2.2.2 va_S.rf (by unfold vp_in; decide +kernel) (v := .int 116) (by decide +kernel) dJ1_indexOfChar_4cfef_16 ?_
          refine lv_iload hx hb dJ1_indexOfChar_4cfef_17 (lv_at hl 1 rfl) ?_
          refine lv_icmp_ne (tgt := 25) hx hb dJ1_indexOfChar_4cfef_19 (by decide) (fun c_10 => ?_) (fun c_10 => ?_)
          · refine lv_iinc (v := 5) (lv' := [(5, .int 5), (4, .int (c1.toInt8.toInt32)), (0, .ref av), (1, .int c1), (2, .int 0), (3, .int 5)]) hx hb dJ1_indexOfChar_4cfef_25 hl (k := 0) rfl (by decide +kernel) (by decide) rfl (fun ls hl => ?_)
            refine lv_goto (tgt := 7) hx hb dJ1_indexOfChar_4cfef_28 (by decide) ?_
            refine lv_iload hx hb dJ1_indexOfChar_4cfef_7 (lv_at hl 0 rfl) ?_
            refine lv_iload_n hx hb dJ1_indexOfChar_4cfef_9 rfl (lv_at hl 5 rfl) ?_
            refine lv_icmp_ge (tgt := 31) hx hb dJ1_indexOfChar_4cfef_10 (by decide) (fun c_11 => ?_) (fun c_11 => absurd c_11 (by decide +kernel))
            refine lv_iconst (v := -1) hx hb dJ1_indexOfChar_4cfef_31 (by decide) ?_
            exact W.iret (v := -1) hx hb hr (fun t ht hW => ⟨_, rfl, by simp [xKj, (Int32.not_le.mp c_1), c_2, (Int32.not_le.mp c_3), c_4, (Int32.not_le.mp c_5), c_6, (Int32.not_le.mp c_7), c_8, (Int32.not_le.mp c_9), c_10, (Int32.not_lt.mpr c_11)], ht⟩) (fun _ h => absurd h List.not_mem_nil) dJ1_indexOfChar_4cfef_32
          · refine lv_iload hx hb dJ1_indexOfChar_4cfef_22 (lv_at hl 0 rfl) ?_
            exact W.iret (v := 4) hx hb hr (fun t ht hW => ⟨_, rfl, by simp [xKj, (Int32.not_le.mp c_1), c_2, (Int32.not_le.mp c_3), c_4, (Int32.not_le.mp c_5), c_6, (Int32.not_le.mp c_7), c_8, (Int32.not_le.mp c_9), c_10], ht⟩) (fun _ h => absurd h List.not_mem_nil) dJ1_indexOfChar_4cfef_24
        · refine lv_iload hx hb dJ1_indexOfChar_4cfef_22 (lv_at hl 0 rfl) ?_
          exact W.iret (v := 3) hx hb hr (fun t ht hW => ⟨_, rfl, by simp [xKj, (Int32.not_le.mp c_1), c_2, (Int32.not_le.mp c_3), c_4, (Int32.not_le.mp c_5), c_6, (Int32.not_le.mp c_7), c_8], ht⟩) (fun _ h => absurd h List.not_mem_nil) dJ1_indexOfChar_4cfef_24
      · refine lv_iload hx hb dJ1_indexOfChar_4cfef_22 (lv_at hl 0 rfl) ?_
        exact W.iret (v := 2) hx hb hr (fun t ht hW => ⟨_, rfl, by simp [xKj, (Int32.not_le.mp c_1), c_2, (Int32.not_le.mp c_3), c_4, (Int32.not_le.mp c_5), c_6], ht⟩) (fun _ h => absurd h List.not_mem_nil) dJ1_indexOfChar_4cfef_24
    · refine lv_iload hx hb dJ1_indexOfChar_4cfef_22 (lv_at hl 0 rfl) ?_
      exact W.iret (v := 1) hx hb hr (fun t ht hW => ⟨_, rfl, by simp [xKj, (Int32.not_le.mp c_1), c_2, (Int32.not_le.mp c_3), c_4], ht⟩) (fun _ h => absurd h List.not_mem_nil) dJ1_indexOfChar_4cfef_24
  · refine lv_iload hx hb dJ1_indexOfChar_4cfef_22 (lv_at hl 0 rfl) ?_
    exact W.iret (v := 0) hx hb hr (fun t ht hW => ⟨_, rfl, by simp [xKj, (Int32.not_le.mp c_1), c_2], ht⟩) (fun _ h => absurd h List.not_mem_nil) dJ1_indexOfChar_4cfef_24

set_option maxHeartbeats 4000000 in
set_option maxRecDepth 100000 in
theorem g_J1_indexOf (l : Launch) (D : va_G) (cI cL cZ cC : ClassId) (ad : Nat) (av : Nat) (c1 : Int32)  : Met l yJ1_indexOf_4cfef wsJ1_indexOf_4cfef ({ frames := 1, cells := 0, slots := 0, locals := 25 } : Room) (sPc D ad av [.ref av, .int c1, .int 0, .int 5] [] (xTy cI cL cZ cC)) (vp_Si (fun r : Int32 => r = xKi c1)) 0 0 (fun _ => False) := by
  refine Met.ofW (cc := cJ1_indexOf_4cfef) (maxL := 4) (ret := (some .int)) (by decide) rfl ?_
  intro p e s m args below meth c s₁ B hml hv
  obtain ⟨rfl, hP, hK, hX9⟩ := hv
  have hx := B.exec
  have hb := B.bytes
  have hr := B.returns
  have hts := atoms_spec (ws := wsJ1_indexOf_4cfef) B.pre
  have hown : s.vm.findClass RJ1 = some m.cls := findClass_of_methodNamed B.named
  have hlocks := B.notSynchronized
  have hl := lv_entry ([.ref av, .int c1, .int 0, .int 5]) (n := 4) (Nat.le_of_ble_eq_true rfl)
  rw [lg_entry_eq]
  generalize (lg_sl ([.ref av, .int c1, .int 0, .int 5]) ++ List.replicate (4 - (lg_sl ([.ref av, .int c1, .int 0, .int 5])).length) Slot.unset).toArray = ls at hl ⊢
  have hl : lv_has ls 4 [(0, .ref av), (1, .int c1), (2, .int 0), (3, .int 5)] := hl
  refine lv_iload_n hx hb dJ1_indexOf_4cfef_0 rfl (lv_at hl 1 rfl) ?_
  have hPc := hP.sub (ws' := []) [] rfl
  refine vp_callSi (va_Run.run (va_runS (As := [.int c1]) (rest := []) ⟨hx, hb, hml, hown, hts⟩ (g_J1_canEncode l D cI cL cZ cC c1 ) (va_cwS 1 hts gJ1_indexOf_4cfef_J1_canEncode_9a6ad rfl rfl rfl (by decide +kernel) ⟨Nat.le_of_ble_eq_true rfl, Nat.le_of_ble_eq_true rfl⟩) ⟨xPc_bl, xPc_use hPc hK⟩ rfl rfl hl.1 rfl (lv_room (Nat.le_of_ble_eq_true rfl)) dJ1_indexOf_4cfef_1 ⟨Nat.le_of_ble_eq_true rfl, Nat.le_of_ble_eq_true rfl⟩)) (fun r_1 er_1 => ?_)
  obtain rfl : (xCe c1 : Int32) = r_1 := Eq.symm er_1
  refine lv_if_ne (tgt := 9) hx hb dJ1_indexOf_4cfef_4 (by decide) (fun c_2 => ?_) (fun c_2 => ?_)
  · refine lv_iload_n hx hb dJ1_indexOf_4cfef_9 rfl (lv_at hl 2 rfl) ?_
    refine lv_iconst (v := 0) hx hb dJ1_indexOf_4cfef_10 (by decide) ?_
    refine va_mmax hx hb (hml.trans hl.1.symm) hown (hts (.methodLink RJ1 92 Lib.Math.max.name) (by decide +kernel)) (hts (.static Lib.Math.max.name) (by decide +kernel)) (hts (.initialized "java/lang/Math") (by decide +kernel)) (hts (.code Lib.Math.max.name Lib.Math.max.code 2 (some .int)) (by decide +kernel)) (Nat.le_of_ble_eq_true rfl) (Nat.le_of_ble_eq_true rfl) (Nat.le_of_ble_eq_true rfl) (Nat.le_of_ble_eq_true rfl) dJ1_indexOf_4cfef_11 ?_
    refine xv_int (y := 0) (by decide +kernel) ?_
    refine lv_istore_n (lv' := [(2, .int 0), (0, .ref av), (1, .int c1), (3, .int 5)]) hx hb dJ1_indexOf_4cfef_14 rfl hl (by decide) rfl (fun ls hl => ?_)
    refine lv_iload_n hx hb dJ1_indexOf_4cfef_15 rfl (lv_at hl 3 rfl) ?_
    refine lv_aload_n hx hb dJ1_indexOf_4cfef_16 rfl (lv_at hl 1 rfl) ?_
    refine va_tlen hx hb (hX9.1.1 0 (by decide)).2.2.2 va_S.rf (v := 5) (by decide +kernel) dJ1_indexOf_4cfef_17 ?_
    refine va_mmin hx hb (hml.trans hl.1.symm) hown (hts (.methodLink RJ1 38 Lib.Math.min.name) (by decide +kernel)) (hts (.static Lib.Math.min.name) (by decide +kernel)) (hts (.initialized "java/lang/Math") (by decide +kernel)) (hts (.code Lib.Math.min.name Lib.Math.min.code 2 (some .int)) (by decide +kernel)) (Nat.le_of_ble_eq_true rfl) (Nat.le_of_ble_eq_true rfl) (Nat.le_of_ble_eq_true rfl) (Nat.le_of_ble_eq_true rfl) dJ1_indexOf_4cfef_18 ?_
    refine xv_int (y := 5) (by decide +kernel) ?_
    refine lv_istore_n (lv' := [(3, .int 5), (2, .int 0), (0, .ref av), (1, .int c1)]) hx hb dJ1_indexOf_4cfef_21 rfl hl (by decide) rfl (fun ls hl => ?_)
    refine lv_iload_n hx hb dJ1_indexOf_4cfef_22 rfl (lv_at hl 1 rfl) ?_
    refine lv_iload_n hx hb dJ1_indexOf_4cfef_23 rfl (lv_at hl 0 rfl) ?_
    refine lv_icmp_lt (tgt := 29) hx hb dJ1_indexOf_4cfef_24 (by decide) (fun c_3 => ?_) (fun c_3 => absurd c_3 (by decide +kernel))
    refine lv_aload_n hx hb dJ1_indexOf_4cfef_29 rfl (lv_at hl 2 rfl) ?_
    refine lv_iload_n hx hb dJ1_indexOf_4cfef_30 rfl (lv_at hl 3 rfl) ?_
    refine lv_iload_n hx hb dJ1_indexOf_4cfef_31 rfl (lv_at hl 1 rfl) ?_
    refine lv_iload_n hx hb dJ1_indexOf_4cfef_32 rfl (lv_at hl 0 rfl) ?_
    have hPc := hP.sub (ws' := []) [] rfl
    refine vp_callSi (va_Run.run (va_runS (As := [.ref av, .int c1, .int 0, .int 5]) (rest := []) ⟨hx, hb, hml, hown, hts⟩ (g_J1_indexOfChar l D cI cL cZ cC ad av c1 ) (va_cwS 4 hts gJ1_indexOf_4cfef_J1_indexOfChar_4cfef rfl rfl rfl (by decide +kernel) ⟨Nat.le_of_ble_eq_true rfl, Nat.le_of_ble_eq_true rfl⟩) ⟨sPc_bl, sPc_use hPc hK (xKs_use hX9 va_S.rf (fun _ h => h))⟩ rfl rfl hl.1 rfl (lv_room (Nat.le_of_ble_eq_true rfl)) dJ1_indexOf_4cfef_33 ⟨Nat.le_of_ble_eq_true rfl, Nat.le_of_ble_eq_true rfl⟩)) (fun r_4 er_4 => ?_)
    obtain rfl : (xKj c1.toInt8.toInt32 : Int32) = r_4 := Eq.symm er_4
    exact W.iret (v := xKj c1.toInt8.toInt32) hx hb hr (fun t ht hW => ⟨_, rfl, (xKj_in (xCe_1 c_2).1 (xCe_1 c_2).2), ht⟩) (fun _ h => absurd h List.not_mem_nil) dJ1_indexOf_4cfef_36
  · refine lv_iconst (v := -1) hx hb dJ1_indexOf_4cfef_7 (by decide) ?_
    exact W.iret (v := -1) hx hb hr (fun t ht hW => ⟨_, rfl, (xCe_0 c_2).symm, ht⟩) (fun _ h => absurd h List.not_mem_nil) dJ1_indexOf_4cfef_8

set_option maxHeartbeats 4000000 in
set_option maxRecDepth 100000 in
theorem g_J0_indexOf2 (l : Launch) (D : va_G) (cI cL cZ cC : ClassId) (ad : Nat) (av : Nat) (c1 : Int32)  : Met l yJ0_indexOf_7cf53 wsJ0_indexOf_7cf53 ({ frames := 2, cells := 0, slots := 0, locals := 48 } : Room) (sPc D ad av [.ref ad, .int c1, .int 0] [] (xTy cI cL cZ cC)) (vp_Si (fun r : Int32 => r = xKi c1)) 0 0 (fun _ => False) := by
  refine Met.ofW (cc := cJ0_indexOf_7cf53) (maxL := 3) (ret := (some .int)) (by decide) rfl ?_
  intro p e s m args below meth c s₁ B hml hv
  obtain ⟨rfl, hP, hK, hX9⟩ := hv
  have hx := B.exec
  have hb := B.bytes
  have hr := B.returns
  have hts := atoms_spec (ws := wsJ0_indexOf_7cf53) B.pre
  have hown : s.vm.findClass RJ0 = some m.cls := findClass_of_methodNamed B.named
  have hlocks := B.notSynchronized
  have hl := lv_entry ([.ref ad, .int c1, .int 0]) (n := 3) (Nat.le_of_ble_eq_true rfl)
  rw [lg_entry_eq]
  generalize (lg_sl ([.ref ad, .int c1, .int 0]) ++ List.replicate (3 - (lg_sl ([.ref ad, .int c1, .int 0])).length) Slot.unset).toArray = ls at hl ⊢
  have hl : lv_has ls 3 [(0, .ref ad), (1, .int c1), (2, .int 0)] := hl
  refine lv_aload_n hx hb dJ0_indexOf_7cf53_0 rfl (lv_at hl 0 rfl) ?_
  have hPc := hP.sub (ws' := []) [] rfl
  refine vp_callSi (va_Run.run (va_runV (As := []) (rest := []) ⟨hx, hb, hml, hown, hts⟩ (g_J0_isLatin1 l D cI cL cZ cC ad av ) (cwV 0 hts gJ0_indexOf_7cf53_J0_isLatin1_aae02 rfl rfl rfl (by decide +kernel) ⟨Nat.le_of_ble_eq_true rfl, Nat.le_of_ble_eq_true rfl⟩) ⟨sPc_bl, vk_recv hX9.1 (i := 0) (by decide) va_S.rf, sPc_use hPc hK (xKs_use hX9 va_S.rf (fun _ h => h))⟩ rfl rfl hl.1 rfl (lv_room (Nat.le_of_ble_eq_true rfl)) dJ0_indexOf_7cf53_1 ⟨Nat.le_of_ble_eq_true rfl, Nat.le_of_ble_eq_true rfl⟩)) (fun r_1 er_1 => ?_)
  obtain rfl : (1 : Int32) = r_1 := Eq.symm er_1
  refine lv_if_eq (tgt := 23) hx hb dJ0_indexOf_7cf53_4 (by decide) (fun c_2 => absurd c_2 (by decide +kernel)) (fun c_2 => ?_)
  refine lv_aload_n hx hb dJ0_indexOf_7cf53_7 rfl (lv_at hl 0 rfl) ?_
  refine vk_getf hx hb (hX9.1.1 0 (by decide)).2.2.1 va_S.rf hown (hts (.fieldLink RJ0 9 "java/lang/String" "value" "[B") (by decide +kernel)) (fun _ h9 => h9) dJ0_indexOf_7cf53_8 ?_
  refine lv_iload_n hx hb dJ0_indexOf_7cf53_11 rfl (lv_at hl 1 rfl) ?_
  refine lv_iload_n hx hb dJ0_indexOf_7cf53_12 rfl (lv_at hl 2 rfl) ?_
  refine lv_aload_n hx hb dJ0_indexOf_7cf53_13 rfl (lv_at hl 0 rfl) ?_
  have hPc := hP.sub (ws' := []) [] rfl
  refine vp_callSi (va_Run.run (va_runV (As := []) (rest := [.int 0, .int c1, .ref av]) ⟨hx, hb, hml, hown, hts⟩ (g_J0_length l D cI cL cZ cC ad av ) (cwV 0 hts gJ0_indexOf_7cf53_J0_length_8abf5 rfl rfl rfl (by decide +kernel) ⟨Nat.le_of_ble_eq_true rfl, Nat.le_of_ble_eq_true rfl⟩) ⟨sPc_bl, vk_recv hX9.1 (i := 0) (by decide) va_S.rf, sPc_use hPc hK (xKs_use hX9 va_S.rf (fun _ h => h))⟩ rfl rfl hl.1 rfl (lv_room (Nat.le_of_ble_eq_true rfl)) dJ0_indexOf_7cf53_14 ⟨Nat.le_of_ble_eq_true rfl, Nat.le_of_ble_eq_true rfl⟩)) (fun r_3 er_3 => ?_)
  obtain rfl : (5 : Int32) = r_3 := Eq.symm er_3
  have hPc := hP.sub (ws' := []) [] rfl
  refine vp_callSi (va_Run.run (va_runS (As := [.ref av, .int c1, .int 0, .int 5]) (rest := []) ⟨hx, hb, hml, hown, hts⟩ (g_J1_indexOf l D cI cL cZ cC ad av c1 ) (va_cwS 4 hts gJ0_indexOf_7cf53_J1_indexOf_4cfef rfl rfl rfl (by decide +kernel) ⟨Nat.le_of_ble_eq_true rfl, Nat.le_of_ble_eq_true rfl⟩) ⟨sPc_bl, sPc_use hPc hK (xKs_use hX9 va_S.rf (fun _ h => h))⟩ rfl rfl hl.1 rfl (lv_room (Nat.le_of_ble_eq_true rfl)) dJ0_indexOf_7cf53_17 ⟨Nat.le_of_ble_eq_true rfl, Nat.le_of_ble_eq_true rfl⟩)) (fun r_4 er_4 => ?_)
  obtain rfl : (xKi c1 : Int32) = r_4 := Eq.symm er_4
  refine lv_goto (tgt := 36) hx hb dJ0_indexOf_7cf53_20 (by decide) ?_
  exact W.iret (v := xKi c1) hx hb hr (fun t ht hW => ⟨_, rfl, rfl, ht⟩) (fun _ h => absurd h List.not_mem_nil) dJ0_indexOf_7cf53_36

set_option maxHeartbeats 4000000 in
set_option maxRecDepth 100000 in
theorem g_J0_indexOf1 (l : Launch) (D : va_G) (cI cL cZ cC : ClassId) (ad : Nat) (av : Nat) (c1 : Int32)  : Met l yJ0_indexOf_0f7a4 wsJ0_indexOf_0f7a4 ({ frames := 3, cells := 0, slots := 0, locals := 70 } : Room) (sPc D ad av [.ref ad, .int c1] [] (xTy cI cL cZ cC)) (vp_Si (fun r : Int32 => r = xKi c1)) 0 0 (fun _ => False) := by
  refine Met.ofW (cc := cJ0_indexOf_0f7a4) (maxL := 2) (ret := (some .int)) (by decide) rfl ?_
  intro p e s m args below meth c s₁ B hml hv
  obtain ⟨rfl, hP, hK, hX9⟩ := hv
  have hx := B.exec
  have hb := B.bytes
  have hr := B.returns
  have hts := atoms_spec (ws := wsJ0_indexOf_0f7a4) B.pre
  have hown : s.vm.findClass RJ0 = some m.cls := findClass_of_methodNamed B.named
  have hlocks := B.notSynchronized
  have hl := lv_entry ([.ref ad, .int c1]) (n := 2) (Nat.le_of_ble_eq_true rfl)
  rw [lg_entry_eq]
  generalize (lg_sl ([.ref ad, .int c1]) ++ List.replicate (2 - (lg_sl ([.ref ad, .int c1])).length) Slot.unset).toArray = ls at hl ⊢
  have hl : lv_has ls 2 [(0, .ref ad), (1, .int c1)] := hl
  refine lv_aload_n hx hb dJ0_indexOf_0f7a4_0 rfl (lv_at hl 0 rfl) ?_
  refine lv_iload_n hx hb dJ0_indexOf_0f7a4_1 rfl (lv_at hl 1 rfl) ?_
  refine lv_iconst (v := 0) hx hb dJ0_indexOf_0f7a4_2 (by decide) ?_
  have hPc := hP.sub (ws' := []) [] rfl
  refine vp_callSi (va_Run.run (va_runV (As := [.int c1, .int 0]) (rest := []) ⟨hx, hb, hml, hown, hts⟩ (g_J0_indexOf2 l D cI cL cZ cC ad av c1 ) (cwV 2 hts gJ0_indexOf_0f7a4_J0_indexOf_7cf53 rfl rfl rfl (by decide +kernel) ⟨Nat.le_of_ble_eq_true rfl, Nat.le_of_ble_eq_true rfl⟩) ⟨sPc_bl, vk_recv hX9.1 (i := 0) (by decide) va_S.rf, sPc_use hPc hK (xKs_use hX9 va_S.rf (fun _ h => h))⟩ rfl rfl hl.1 rfl (lv_room (Nat.le_of_ble_eq_true rfl)) dJ0_indexOf_0f7a4_3 ⟨Nat.le_of_ble_eq_true rfl, Nat.le_of_ble_eq_true rfl⟩)) (fun r_1 er_1 => ?_)
  obtain rfl : (xKi c1 : Int32) = r_1 := Eq.symm er_1
  exact W.iret (v := xKi c1) hx hb hr (fun t ht hW => ⟨_, rfl, rfl, ht⟩) (fun _ h => absurd h List.not_mem_nil) dJ0_indexOf_0f7a4_6

set_option maxHeartbeats 4000000 in
set_option maxRecDepth 100000 in
theorem g_X3_kindAt (l : Launch) (D : va_G) (cI cL cZ cC : ClassId) (ad : Nat) (av : Nat) (tx : Nat) (t0 : Nat) (len : Nat) (lt : Nat → Int32) (p0 : Nat) (hl96 : len ≤ 96) (hp : p0 ≤ 500) : Met l yX3_kindAt wsX3_kindAt ({ frames := 4, cells := 0, slots := 0, locals := 91 } : Room) (sPc D ad av [.ref tx, .int (nI p0)] [(tx, .inr (3, [.ref t0, .int (nI len)])), (t0, .inl (cI, 96, .inl lt))] (xTy cI cL cZ cC)) (vp_Si (fun r : Int32 => r = xKd lt len p0)) 0 0 (fun _ => False) := by
  refine Met.ofW (cc := cX3_kindAt) (maxL := 2) (ret := (some .int)) (by decide) rfl ?_
  intro p e s m args below meth c s₁ B hml hv
  obtain ⟨rfl, hP, hK, hX9⟩ := hv
  have hx := B.exec
  have hb := B.bytes
  have hr := B.returns
  have hts := atoms_spec (ws := wsX3_kindAt) B.pre
  have hown : s.vm.findClass RX3 = some m.cls := findClass_of_methodNamed B.named
  have hlocks := B.notSynchronized
  have hl := lv_entry ([.ref tx, .int (nI p0)]) (n := 2) (Nat.le_of_ble_eq_true rfl)
  rw [lg_entry_eq]
  generalize (lg_sl ([.ref tx, .int (nI p0)]) ++ List.replicate (2 - (lg_sl ([.ref tx, .int (nI p0)])).length) Slot.unset).toArray = ls at hl ⊢
  have hl : lv_has ls 2 [(0, .ref tx), (1, .int (nI p0))] := hl
  refine lv_aload_n hx hb dX3_kindAt_0 rfl (lv_at hl 0 rfl) ?_
  refine lv_iload_n hx hb dX3_kindAt_1 rfl (lv_at hl 1 rfl) ?_
  have hPc := hP.sub (ws' := [(tx, .inr (3, [.ref t0, .int (nI len)])), (t0, .inl (cI, 96, .inl lt))]) [0, 1] rfl
  refine vp_callSi (va_Run.run (va_runV (As := [.int (nI p0)]) (rest := []) ⟨hx, hb, hml, hown, hts⟩ (g_X3_at l D cI cL cZ cC tx t0 len lt p0 (by first | assumption | decide +kernel) (by first | assumption | decide +kernel)) (cwV 1 hts gX3_kindAt_X3_at rfl rfl rfl (by decide +kernel) ⟨Nat.le_of_ble_eq_true rfl, Nat.le_of_ble_eq_true rfl⟩) ⟨xPc_bl, va_recv hK hPc (ci := 3) (q0 := 0) rfl rfl, xPc_use hPc hK⟩ rfl rfl hl.1 rfl (lv_room (Nat.le_of_ble_eq_true rfl)) dX3_kindAt_2 ⟨Nat.le_of_ble_eq_true rfl, Nat.le_of_ble_eq_true rfl⟩)) (fun r_1 er_1 => ?_)
  obtain rfl : (xAt lt len p0 : Int32) = r_1 := Eq.symm er_1
  refine lv_if_ge (tgt := 12) hx hb dX3_kindAt_5 (by decide) (fun c_2 => ?_) (fun c_2 => ?_)
  · refine va_ldcS hx hb hown hX9.2.2 dX3_kindAt_12 ?_
    refine lv_aload_n hx hb dX3_kindAt_14 rfl (lv_at hl 0 rfl) ?_
    refine lv_iload_n hx hb dX3_kindAt_15 rfl (lv_at hl 1 rfl) ?_
    have hPc := hP.sub (ws' := [(tx, .inr (3, [.ref t0, .int (nI len)])), (t0, .inl (cI, 96, .inl lt))]) [0, 1] rfl
    refine vp_callSi (va_Run.run (va_runV (As := [.int (nI p0)]) (rest := [.ref ad]) ⟨hx, hb, hml, hown, hts⟩ (g_X3_at l D cI cL cZ cC tx t0 len lt p0 (by first | assumption | decide +kernel) (by first | assumption | decide +kernel)) (cwV 1 hts gX3_kindAt_X3_at rfl rfl rfl (by decide +kernel) ⟨Nat.le_of_ble_eq_true rfl, Nat.le_of_ble_eq_true rfl⟩) ⟨xPc_bl, va_recv hK hPc (ci := 3) (q0 := 0) rfl rfl, xPc_use hPc hK⟩ rfl rfl hl.1 rfl (lv_room (Nat.le_of_ble_eq_true rfl)) dX3_kindAt_16 ⟨Nat.le_of_ble_eq_true rfl, Nat.le_of_ble_eq_true rfl⟩)) (fun r_3 er_3 => ?_)
    obtain rfl : (xAt lt len p0 : Int32) = r_3 := Eq.symm er_3
    refine lv_i2c (v := ((xAt lt len p0).toUInt32 % 65536).toInt32) hx hb dX3_kindAt_19 rfl ?_
    have hPc := hP.sub (ws' := []) [] rfl
    refine vp_callSi (va_Run.run (va_runV (As := [.int (((xAt lt len p0).toUInt32 % 65536).toInt32)]) (rest := []) ⟨hx, hb, hml, hown, hts⟩ (g_J0_indexOf1 l D cI cL cZ cC ad av (((xAt lt len p0).toUInt32 % 65536).toInt32) ) (cwV 1 hts gX3_kindAt_J0_indexOf_0f7a4 rfl rfl rfl (by decide +kernel) ⟨Nat.le_of_ble_eq_true rfl, Nat.le_of_ble_eq_true rfl⟩) ⟨sPc_bl, vk_recv hX9.1 (i := 0) (by decide) va_S.rf, sPc_use hPc hK (xKs_use hX9 va_S.rf (fun _ h => h))⟩ rfl rfl hl.1 rfl (lv_room (Nat.le_of_ble_eq_true rfl)) dX3_kindAt_20 ⟨Nat.le_of_ble_eq_true rfl, Nat.le_of_ble_eq_true rfl⟩)) (fun r_4 er_4 => ?_)
    obtain rfl : (xKi (((xAt lt len p0).toUInt32 % 65536).toInt32) : Int32) = r_4 := Eq.symm er_4
    exact W.iret (v := xKi (((xAt lt len p0).toUInt32 % 65536).toInt32)) hx hb hr (fun t ht hW => ⟨_, rfl, (by rw [xKd, if_neg (Int32.not_lt.mpr c_2)]), ht⟩) (fun _ h => absurd h List.not_mem_nil) dX3_kindAt_23
  · refine lv_iconst (v := -1) hx hb dX3_kindAt_8 (by decide) ?_
    refine lv_goto (tgt := 23) hx hb dX3_kindAt_9 (by decide) ?_
    exact W.iret (v := -1) hx hb hr (fun t ht hW => ⟨_, rfl, (by rw [xKd, if_pos (Int32.not_le.mp c_2)]), ht⟩) (fun _ h => absurd h List.not_mem_nil) dX3_kindAt_23

/-! the class: a text read onto a road -/
def xWp2 (lt : Nat → Int32) (len p : Nat) : Int32 :=
  if sMd (xAt lt len p) < nI (xDe lt len p - xDp lt len p) then nI (xDp lt len p) + sMd (xAt lt len p)
  else if nI (xDe lt len p - xDp lt len p) < sLd (xAt lt len p) then nI (xDe lt len p)
  else if xAt lt len (xDe lt len p) = 59 then -1 else nI (xDe lt len p)
def xWp (lt : Nat → Int32) (len p : Nat) : Int32 :=
  if sMd (xAt lt len p) = 0 then nI p
  else if nI (p + 1) < nI (xDp lt len p) then (if xKd lt len (p + 1) < 0 then nI (p + 1) else xWp2 lt len p) else xWp2 lt len p
def xFw (lt : Nat → Int32) (len : Nat) : Nat → Nat → Int32 → Int32
  | 0, _, w => w
  | n + 1, p, w => if p < len then (if w < 0 then xFw lt len n (xDe lt len p + 1) (xWp lt len p) else w) else w
theorem xFw_s {lt : Nat → Int32} {len i p : Nat} {w : Int32} (hi : i < len) (hp : p < len) (hw : w < 0) : xFw lt len (len - (i + 1)) (xDe lt len p + 1) (xWp lt len p) = xFw lt len (len - i) p w := by
  rw [show len - i = (len - (i + 1)) + 1 by omega]; simp only [xFw]; rw [if_pos hp, if_pos hw]
theorem xFw_z {lt : Nat → Int32} {len i p : Nat} {w : Int32} (hi : len ≤ i) : xFw lt len (len - i) p w = w := by rw [show len - i = 0 by omega]; rfl
theorem xFw_p {lt : Nat → Int32} {len i p : Nat} {w : Int32} (hi : i < len) (hp : ¬ p < len) : xFw lt len (len - i) p w = w := by
  rw [show len - i = (len - (i + 1)) + 1 by omega]; simp only [xFw]; rw [if_neg hp]
theorem xFw_w {lt : Nat → Int32} {len i p : Nat} {w : Int32} (hi : i < len) (hp : p < len) (hw : ¬ w < 0) : xFw lt len (len - i) p w = w := by
  rw [show len - i = (len - (i + 1)) + 1 by omega]; simp only [xFw]; rw [if_pos hp, if_neg hw]
def xF0 (lt : Nat → Int32) (len : Nat) : Int32 := xFw lt len len (xDe lt len 0 + 1) (xWp lt len 0)
/-- a road's values: how many stops, lines; home, pace, sight, limit; legs; by line: kind, run, never, chances -/
abbrev xT : Type := Nat × Nat × Int32 × Int32 × Int32 × Int32 × (Nat → Int32) × (Nat → Int32) × (Nat → Int32) × (Nat → Int32) × (Nat → Nat → Int32)
def xCf (lt : Nat → Int32) (len p : Nat) : Nat → Int32 := fun t => if nI t < nI (xDe lt len p) - nI (xDp lt len p) - 2 then xDg lt len (xDp lt len p + 2 + t) else 0
theorem xCf_t {lt : Nat → Int32} {len p t : Nat} (h : nI t < nI (xDe lt len p) - nI (xDp lt len p) - 2) : xDg lt len (xDp lt len p + 2 + t) = xCf lt len p t := (if_pos h).symm
theorem xCf_f {lt : Nat → Int32} {len p t : Nat} (h : ¬ nI t < nI (xDe lt len p) - nI (xDp lt len p) - 2) : 0 = xCf lt len p t := (if_neg h).symm
def xUc (ch : Nat → Nat → Int32) (n : Nat) (f : Nat → Int32) : Nat → Nat → Int32 := fun j => if j = n then f else ch j
def xTL (lt : Nat → Int32) (len p : Nat) : xT → xT × Int32
  | (st, ln, ho, pa, si, li, lg, ki, ru, ne, ch) =>
    if ln < 3 then ((st, ln + 1, ho, pa, si, li, lg, upd ki ln (xKd lt len (p + 1)), upd ru ln (xDg lt len (xDp lt len p)), upd ne ln (xDg lt len (xDp lt len p + 1)), xUc ch ln (xCp (xCf lt len p) (ch ln) 12)),
      if 0 < xDg lt len (xDp lt len p) then (if 0 < xSm (xCp (xCf lt len p) (ch ln) 12) 12 + xDg lt len (xDp lt len p + 1) then 1 else 0) else 0)
    else ((st, ln, ho, pa, si, li, lg, ki, ru, ne, ch), 0)
def xTS (lt : Nat → Int32) (len p : Nat) : xT → xT × Int32
  | (st, ln, ho, pa, si, li, lg, ki, ru, ne, ch) =>
    if xAt lt len p = 115 then ((xAsN st (xNm lt len p), ln, ho, pa, si, li, xAsL st (xNm lt len p) lg, ki, ru, ne, ch), sAs st (xNm lt len p))
    else if xAt lt len p = 104 then ((st, ln, xCg 0 (xNm lt len p) 0 ho, xCg 0 (xNm lt len p) 1 pa, xCg 0 (xNm lt len p) 2 si, xCl 0 (xNm lt len p) li, lg, ki, ru, ne, ch), sCh 0 (xNm lt len p))
    else if xAt lt len p = 112 then ((st, ln, xCg 1 (xNm lt len p) 0 ho, xCg 1 (xNm lt len p) 1 pa, xCg 1 (xNm lt len p) 2 si, xCl 1 (xNm lt len p) li, lg, ki, ru, ne, ch), sCh 1 (xNm lt len p))
    else if xAt lt len p = 101 then ((st, ln, xCg 2 (xNm lt len p) 0 ho, xCg 2 (xNm lt len p) 1 pa, xCg 2 (xNm lt len p) 2 si, xCl 2 (xNm lt len p) li, lg, ki, ru, ne, ch), sCh 2 (xNm lt len p))
    else if xAt lt len p = 109 then ((st, ln, xCg 3 (xNm lt len p) 0 ho, xCg 3 (xNm lt len p) 1 pa, xCg 3 (xNm lt len p) 2 si, xCl 3 (xNm lt len p) li, lg, ki, ru, ne, ch), sCh 3 (xNm lt len p))
    else xTL lt len p (st, ln, ho, pa, si, li, lg, ki, ru, ne, ch)
/-- statement after statement -/
def xRL (lt : Nat → Int32) (len : Nat) : Nat → Nat → xT → Nat → xT × Int32
  | 0, _, T, k => (T, nI k)
  | n + 1, p, T, k => if p < len then (if (xTS lt len p T).2 = 0 then ((xTS lt len p T).1, -2000 - nI p) else xRL lt len n (xDe lt len p + 1) (xTS lt len p T).1 (k + 1)) else (T, nI k)
theorem xRL_z {lt : Nat → Int32} {len i p k : Nat} {T : xT} (hi : len ≤ i) : xRL lt len (len - i) p T k = (T, nI k) := by rw [show len - i = 0 by omega]; rfl
theorem xRL_p {lt : Nat → Int32} {len i p k : Nat} {T : xT} (hi : i < len) (hp : ¬ p < len) : xRL lt len (len - i) p T k = (T, nI k) := by
  rw [show len - i = (len - (i + 1)) + 1 by omega]; simp only [xRL]; rw [if_neg hp]
theorem xRL_f {lt : Nat → Int32} {len i p k : Nat} {T : xT} (hi : i < len) (hp : p < len) (h : (xTS lt len p T).2 = 0) : xRL lt len (len - i) p T k = ((xTS lt len p T).1, -2000 - nI p) := by
  rw [show len - i = (len - (i + 1)) + 1 by omega]; simp only [xRL]; rw [if_pos hp, if_pos h]
theorem xRL_s {lt : Nat → Int32} {len i p k : Nat} {T : xT} (hi : i < len) (hp : p < len) (h : ¬ (xTS lt len p T).2 = 0) : xRL lt len (len - (i + 1)) (xDe lt len p + 1) (xTS lt len p T).1 (k + 1) = xRL lt len (len - i) p T k := by
  rw [show len - i = (len - (i + 1)) + 1 by omega]; simp only [xRL]; rw [if_pos hp, if_neg h]
def xRO (lt : Nat → Int32) (len : Nat) (T : xT) : xT × Int32 := if xF0 lt len < 0 then xRL lt len len 0 T 0 else (T, -1000 - xF0 lt len)
theorem xAsN_b {st : Nat} {v : Int32} (h1 : 1 ≤ st) (h7 : st ≤ 7) : 1 ≤ xAsN st v ∧ xAsN st v ≤ 7 := by
  unfold xAsN
  repeat' split
  all_goals omega
theorem xTS_b (lt : Nat → Int32) (len p : Nat) (T : xT) (h1 : 1 ≤ T.1) (h7 : T.1 ≤ 7) (h3 : T.2.1 ≤ 3) : (1 ≤ (xTS lt len p T).1.1 ∧ (xTS lt len p T).1.1 ≤ 7) ∧ (xTS lt len p T).1.2.1 ≤ 3 := by
  obtain ⟨st, ln, ho, pa, si, li, lg, ki, ru, ne, ch⟩ := T
  simp only [xTS]
  dsimp only at h1 h7 h3
  repeat' split
  · exact ⟨xAsN_b h1 h7, h3⟩
  · exact ⟨⟨h1, h7⟩, h3⟩
  · exact ⟨⟨h1, h7⟩, h3⟩
  · exact ⟨⟨h1, h7⟩, h3⟩
  · exact ⟨⟨h1, h7⟩, h3⟩
  · simp only [xTL]
    split
    · exact ⟨⟨h1, h7⟩, by show ln + 1 ≤ 3; omega⟩
    · exact ⟨⟨h1, h7⟩, h3⟩

set_option maxHeartbeats 4000000 in
set_option maxRecDepth 100000 in
theorem g_X3_wrongPlace (l : Launch) (D : va_G) (cI cL cZ cC : ClassId) (ad : Nat) (av : Nat) (tx : Nat) (t0 : Nat) (len : Nat) (lt : Nat → Int32) (p0 : Nat) (hl96 : len ≤ 96) (hp : p0 ≤ 400) : Met l yX3_wrongPlace wsX3_wrongPlace ({ frames := 5, cells := 0, slots := 0, locals := 112 } : Room) (sPc D ad av [.ref tx, .int (nI p0)] [(tx, .inr (3, [.ref t0, .int (nI len)])), (t0, .inl (cI, 96, .inl lt))] (xTy cI cL cZ cC)) (vp_Si (fun r : Int32 => r = xWp lt len p0)) 0 0 (fun _ => False) := by
  refine Met.ofW (cc := cX3_wrongPlace) (maxL := 5) (ret := (some .int)) (by decide) rfl ?_
  intro p e s m args below meth c s₁ B hml hv
  obtain ⟨rfl, hP, hK, hX9⟩ := hv
  have hx := B.exec
  have hb := B.bytes
  have hr := B.returns
  have hts := atoms_spec (ws := wsX3_wrongPlace) B.pre
  have hown : s.vm.findClass RX3 = some m.cls := findClass_of_methodNamed B.named
  have hlocks := B.notSynchronized
  have hl := lv_entry ([.ref tx, .int (nI p0)]) (n := 5) (Nat.le_of_ble_eq_true rfl)
  rw [lg_entry_eq]
  generalize (lg_sl ([.ref tx, .int (nI p0)]) ++ List.replicate (5 - (lg_sl ([.ref tx, .int (nI p0)])).length) Slot.unset).toArray = ls at hl ⊢
  have hl : lv_has ls 5 [(0, .ref tx), (1, .int (nI p0))] := hl
  have hdp := xDp_le lt len p0
  have hde := xDe_le lt len p0
  refine lv_aload_n hx hb dX3_wrongPlace_0 rfl (lv_at hl 0 rfl) ?_
  refine lv_iload_n hx hb dX3_wrongPlace_1 rfl (lv_at hl 1 rfl) ?_
  have hPc := hP.sub (ws' := [(tx, .inr (3, [.ref t0, .int (nI len)])), (t0, .inl (cI, 96, .inl lt))]) [0, 1] rfl
  refine vp_callSi (va_Run.run (va_runV (As := [.int (nI p0)]) (rest := []) ⟨hx, hb, hml, hown, hts⟩ (g_X3_at l D cI cL cZ cC tx t0 len lt p0 (by first | assumption | decide +kernel) (by omega)) (cwV 1 hts gX3_wrongPlace_X3_at rfl rfl rfl (by decide +kernel) ⟨Nat.le_of_ble_eq_true rfl, Nat.le_of_ble_eq_true rfl⟩) ⟨xPc_bl, va_recv hK hPc (ci := 3) (q0 := 0) rfl rfl, xPc_use hPc hK⟩ rfl rfl hl.1 rfl (lv_room (Nat.le_of_ble_eq_true rfl)) dX3_wrongPlace_2 ⟨Nat.le_of_ble_eq_true rfl, Nat.le_of_ble_eq_true rfl⟩)) (fun r_1 er_1 => ?_)
  obtain rfl : (xAt lt len p0 : Int32) = r_1 := Eq.symm er_1
  have hPc := hP.sub (ws' := []) [] rfl
  refine vp_callSi (va_Run.run (va_runS (As := [.int (xAt lt len p0)]) (rest := []) ⟨hx, hb, hml, hown, hts⟩ (g_X3_mostDigits l D cI cL cZ cC (xAt lt len p0) ) (va_cwS 1 hts gX3_wrongPlace_X3_mostDigits rfl rfl rfl (by decide +kernel) ⟨Nat.le_of_ble_eq_true rfl, Nat.le_of_ble_eq_true rfl⟩) ⟨xPc_bl, xPc_use hPc hK⟩ rfl rfl hl.1 rfl (lv_room (Nat.le_of_ble_eq_true rfl)) dX3_wrongPlace_5 ⟨Nat.le_of_ble_eq_true rfl, Nat.le_of_ble_eq_true rfl⟩)) (fun r_2 er_2 => ?_)
  obtain rfl : (sMd (xAt lt len p0) : Int32) = r_2 := Eq.symm er_2
  refine lv_istore_n (lv' := [(2, .int (sMd (xAt lt len p0))), (0, .ref tx), (1, .int (nI p0))]) hx hb dX3_wrongPlace_8 rfl hl (by decide) rfl (fun ls hl => ?_)
  refine lv_iload_n hx hb dX3_wrongPlace_9 rfl (lv_at hl 0 rfl) ?_
  refine lv_if_ne (tgt := 15) hx hb dX3_wrongPlace_10 (by decide) (fun c_3 => ?_) (fun c_3 => ?_)
  · refine lv_aload_n hx hb dX3_wrongPlace_15 rfl (lv_at hl 1 rfl) ?_
    refine lv_iload_n hx hb dX3_wrongPlace_16 rfl (lv_at hl 2 rfl) ?_
    have hPc := hP.sub (ws' := [(tx, .inr (3, [.ref t0, .int (nI len)])), (t0, .inl (cI, 96, .inl lt))]) [0, 1] rfl
    refine vp_callSi (va_Run.run (va_runV (As := [.int (nI p0)]) (rest := []) ⟨hx, hb, hml, hown, hts⟩ (g_X3_digitsPlace l D cI cL cZ cC tx t0 len lt p0 (by first | assumption | decide +kernel) (by omega)) (cwV 1 hts gX3_wrongPlace_X3_digitsPlace rfl rfl rfl (by decide +kernel) ⟨Nat.le_of_ble_eq_true rfl, Nat.le_of_ble_eq_true rfl⟩) ⟨xPc_bl, va_recv hK hPc (ci := 3) (q0 := 0) rfl rfl, xPc_use hPc hK⟩ rfl rfl hl.1 rfl (lv_room (Nat.le_of_ble_eq_true rfl)) dX3_wrongPlace_17 ⟨Nat.le_of_ble_eq_true rfl, Nat.le_of_ble_eq_true rfl⟩)) (fun r_4 er_4 => ?_)
    obtain rfl : (nI (xDp lt len p0) : Int32) = r_4 := Eq.symm er_4
    refine lv_istore_n (lv' := [(3, .int (nI (xDp lt len p0))), (2, .int (sMd (xAt lt len p0))), (0, .ref tx), (1, .int (nI p0))]) hx hb dX3_wrongPlace_20 rfl hl (by decide) rfl (fun ls hl => ?_)
    refine lv_iload_n hx hb dX3_wrongPlace_21 rfl (lv_at hl 0 rfl) ?_
    refine lv_iload_n hx hb dX3_wrongPlace_22 rfl (lv_at hl 3 rfl) ?_
    refine lv_iconst (v := 1) hx hb dX3_wrongPlace_23 (by decide) ?_
    refine lv_iadd hx hb dX3_wrongPlace_24 ?_
    refine xv_int (y := nI (p0 + 1)) (nI_1 p0) ?_
    refine lv_icmp_le (tgt := 42) hx hb dX3_wrongPlace_25 (by decide) (fun c_5 => ?_) (fun c_5 => ?_)
    · refine lv_aload_n hx hb dX3_wrongPlace_42 rfl (lv_at hl 2 rfl) ?_
      refine lv_iload_n hx hb dX3_wrongPlace_43 rfl (lv_at hl 3 rfl) ?_
      have hPc := hP.sub (ws' := [(tx, .inr (3, [.ref t0, .int (nI len)])), (t0, .inl (cI, 96, .inl lt))]) [0, 1] rfl
      refine vp_callSi (va_Run.run (va_runV (As := [.int (nI p0)]) (rest := []) ⟨hx, hb, hml, hown, hts⟩ (g_X3_digitsEnd l D cI cL cZ cC tx t0 len lt p0 (by first | assumption | decide +kernel) (by omega)) (cwV 1 hts gX3_wrongPlace_X3_digitsEnd rfl rfl rfl (by decide +kernel) ⟨Nat.le_of_ble_eq_true rfl, Nat.le_of_ble_eq_true rfl⟩) ⟨xPc_bl, va_recv hK hPc (ci := 3) (q0 := 0) rfl rfl, xPc_use hPc hK⟩ rfl rfl hl.1 rfl (lv_room (Nat.le_of_ble_eq_true rfl)) dX3_wrongPlace_44 ⟨Nat.le_of_ble_eq_true rfl, Nat.le_of_ble_eq_true rfl⟩)) (fun r_6 er_6 => ?_)
      obtain rfl : (nI (xDe lt len p0) : Int32) = r_6 := Eq.symm er_6
      refine lv_istore (lv' := [(4, .int (nI (xDe lt len p0))), (3, .int (nI (xDp lt len p0))), (2, .int (sMd (xAt lt len p0))), (0, .ref tx), (1, .int (nI p0))]) hx hb dX3_wrongPlace_47 hl (by decide) rfl (fun ls hl => ?_)
      refine lv_iload hx hb dX3_wrongPlace_49 (lv_at hl 0 rfl) ?_
      refine lv_iload_n hx hb dX3_wrongPlace_51 rfl (lv_at hl 1 rfl) ?_
      refine lv_isub hx hb dX3_wrongPlace_52 ?_
      refine xv_int (y := nI (xDe lt len p0 - xDp lt len p0)) (pk_sub hde.1) ?_
      refine lv_iload_n hx hb dX3_wrongPlace_53 rfl (lv_at hl 2 rfl) ?_
      refine lv_icmp_le (tgt := 61) hx hb dX3_wrongPlace_54 (by decide) (fun c_7 => ?_) (fun c_7 => ?_)
      · refine lv_iload hx hb dX3_wrongPlace_61 (lv_at hl 0 rfl) ?_
        refine lv_iload_n hx hb dX3_wrongPlace_63 rfl (lv_at hl 1 rfl) ?_
        refine lv_isub hx hb dX3_wrongPlace_64 ?_
        refine xv_int (y := nI (xDe lt len p0 - xDp lt len p0)) (pk_sub hde.1) ?_
        refine lv_aload_n hx hb dX3_wrongPlace_65 rfl (lv_at hl 3 rfl) ?_
        refine lv_iload_n hx hb dX3_wrongPlace_66 rfl (lv_at hl 4 rfl) ?_
        have hPc := hP.sub (ws' := [(tx, .inr (3, [.ref t0, .int (nI len)])), (t0, .inl (cI, 96, .inl lt))]) [0, 1] rfl
        refine vp_callSi (va_Run.run (va_runV (As := [.int (nI p0)]) (rest := [.int (nI (xDe lt len p0 - xDp lt len p0))]) ⟨hx, hb, hml, hown, hts⟩ (g_X3_at l D cI cL cZ cC tx t0 len lt p0 (by first | assumption | decide +kernel) (by omega)) (cwV 1 hts gX3_wrongPlace_X3_at rfl rfl rfl (by decide +kernel) ⟨Nat.le_of_ble_eq_true rfl, Nat.le_of_ble_eq_true rfl⟩) ⟨xPc_bl, va_recv hK hPc (ci := 3) (q0 := 0) rfl rfl, xPc_use hPc hK⟩ rfl rfl hl.1 rfl (lv_room (Nat.le_of_ble_eq_true rfl)) dX3_wrongPlace_67 ⟨Nat.le_of_ble_eq_true rfl, Nat.le_of_ble_eq_true rfl⟩)) (fun r_8 er_8 => ?_)
        obtain rfl : (xAt lt len p0 : Int32) = r_8 := Eq.symm er_8
        have hPc := hP.sub (ws' := []) [] rfl
        refine vp_callSi (va_Run.run (va_runS (As := [.int (xAt lt len p0)]) (rest := [.int (nI (xDe lt len p0 - xDp lt len p0))]) ⟨hx, hb, hml, hown, hts⟩ (g_X3_leastDigits l D cI cL cZ cC (xAt lt len p0) ) (va_cwS 1 hts gX3_wrongPlace_X3_leastDigits rfl rfl rfl (by decide +kernel) ⟨Nat.le_of_ble_eq_true rfl, Nat.le_of_ble_eq_true rfl⟩) ⟨xPc_bl, xPc_use hPc hK⟩ rfl rfl hl.1 rfl (lv_room (Nat.le_of_ble_eq_true rfl)) dX3_wrongPlace_70 ⟨Nat.le_of_ble_eq_true rfl, Nat.le_of_ble_eq_true rfl⟩)) (fun r_9 er_9 => ?_)
        obtain rfl : (sLd (xAt lt len p0) : Int32) = r_9 := Eq.symm er_9
        refine lv_icmp_lt (tgt := 87) hx hb dX3_wrongPlace_73 (by decide) (fun c_10 => ?_) (fun c_10 => ?_)
        · refine lv_iload hx hb dX3_wrongPlace_87 (lv_at hl 0 rfl) ?_
          refine lv_goto (tgt := 93) hx hb dX3_wrongPlace_89 (by decide) ?_
          exact W.iret (v := nI (xDe lt len p0)) hx hb hr (fun t ht hW => ⟨_, rfl, (by rw [xWp, if_neg c_3, if_neg (Int32.not_lt.mpr c_5), xWp2, if_neg (Int32.not_lt.mpr c_7), if_pos c_10]), ht⟩) (fun _ h => absurd h List.not_mem_nil) dX3_wrongPlace_93
        · refine lv_aload_n hx hb dX3_wrongPlace_76 rfl (lv_at hl 3 rfl) ?_
          refine lv_iload hx hb dX3_wrongPlace_77 (lv_at hl 0 rfl) ?_
          have hPc := hP.sub (ws' := [(tx, .inr (3, [.ref t0, .int (nI len)])), (t0, .inl (cI, 96, .inl lt))]) [0, 1] rfl
          refine vp_callSi (va_Run.run (va_runV (As := [.int (nI (xDe lt len p0))]) (rest := []) ⟨hx, hb, hml, hown, hts⟩ (g_X3_at l D cI cL cZ cC tx t0 len lt (xDe lt len p0) (by first | assumption | decide +kernel) (by omega)) (cwV 1 hts gX3_wrongPlace_X3_at rfl rfl rfl (by decide +kernel) ⟨Nat.le_of_ble_eq_true rfl, Nat.le_of_ble_eq_true rfl⟩) ⟨xPc_bl, va_recv hK hPc (ci := 3) (q0 := 0) rfl rfl, xPc_use hPc hK⟩ rfl rfl hl.1 rfl (lv_room (Nat.le_of_ble_eq_true rfl)) dX3_wrongPlace_79 ⟨Nat.le_of_ble_eq_true rfl, Nat.le_of_ble_eq_true rfl⟩)) (fun r_11 er_11 => ?_)
          obtain rfl : (xAt lt len (xDe lt len p0) : Int32) = r_11 := Eq.symm er_11
          refine lv_bipush (v := 59) hx hb dX3_wrongPlace_82 (by decide) ?_
          refine lv_icmp_eq (tgt := 92) hx hb dX3_wrongPlace_84 (by decide) (fun c_12 => ?_) (fun c_12 => ?_)
          · refine lv_iconst (v := -1) hx hb dX3_wrongPlace_92 (by decide) ?_
            exact W.iret (v := -1) hx hb hr (fun t ht hW => ⟨_, rfl, (by rw [xWp, if_neg c_3, if_neg (Int32.not_lt.mpr c_5), xWp2, if_neg (Int32.not_lt.mpr c_7), if_neg c_10, if_pos c_12]), ht⟩) (fun _ h => absurd h List.not_mem_nil) dX3_wrongPlace_93
          · refine lv_iload hx hb dX3_wrongPlace_87 (lv_at hl 0 rfl) ?_
            refine lv_goto (tgt := 93) hx hb dX3_wrongPlace_89 (by decide) ?_
            exact W.iret (v := nI (xDe lt len p0)) hx hb hr (fun t ht hW => ⟨_, rfl, (by rw [xWp, if_neg c_3, if_neg (Int32.not_lt.mpr c_5), xWp2, if_neg (Int32.not_lt.mpr c_7), if_neg c_10, if_neg c_12]), ht⟩) (fun _ h => absurd h List.not_mem_nil) dX3_wrongPlace_93
      · refine lv_iload_n hx hb dX3_wrongPlace_57 rfl (lv_at hl 1 rfl) ?_
        refine lv_iload_n hx hb dX3_wrongPlace_58 rfl (lv_at hl 2 rfl) ?_
        refine lv_iadd hx hb dX3_wrongPlace_59 ?_
        exact W.iret (v := (nI (xDp lt len p0)) + (sMd (xAt lt len p0))) hx hb hr (fun t ht hW => ⟨_, rfl, (by rw [xWp, if_neg c_3, if_neg (Int32.not_lt.mpr c_5), xWp2, if_pos (Int32.not_le.mp c_7)]), ht⟩) (fun _ h => absurd h List.not_mem_nil) dX3_wrongPlace_60
    · refine lv_aload_n hx hb dX3_wrongPlace_28 rfl (lv_at hl 2 rfl) ?_
      refine lv_iload_n hx hb dX3_wrongPlace_29 rfl (lv_at hl 3 rfl) ?_
      refine lv_iconst (v := 1) hx hb dX3_wrongPlace_30 (by decide) ?_
      refine lv_iadd hx hb dX3_wrongPlace_31 ?_
      refine xv_int (y := nI (p0 + 1)) (nI_1 p0) ?_
      have hPc := hP.sub (ws' := [(tx, .inr (3, [.ref t0, .int (nI len)])), (t0, .inl (cI, 96, .inl lt))]) [0, 1] rfl
      refine vp_callSi (va_Run.run (va_runV (As := [.int (nI (p0 + 1))]) (rest := []) ⟨hx, hb, hml, hown, hts⟩ (g_X3_kindAt l D cI cL cZ cC ad av tx t0 len lt (p0 + 1) (by first | assumption | decide +kernel) (by omega)) (cwV 1 hts gX3_wrongPlace_X3_kindAt rfl rfl rfl (by decide +kernel) ⟨Nat.le_of_ble_eq_true rfl, Nat.le_of_ble_eq_true rfl⟩) ⟨sPc_bl, va_recv hK hPc (ci := 3) (q0 := 0) rfl rfl, sPc_use hPc hK (xKs_use hX9 va_S.rf (fun _ h => h))⟩ rfl rfl hl.1 rfl (lv_room (Nat.le_of_ble_eq_true rfl)) dX3_wrongPlace_32 ⟨Nat.le_of_ble_eq_true rfl, Nat.le_of_ble_eq_true rfl⟩)) (fun r_13 er_13 => ?_)
      obtain rfl : (xKd lt len (p0 + 1) : Int32) = r_13 := Eq.symm er_13
      refine lv_if_ge (tgt := 42) hx hb dX3_wrongPlace_35 (by decide) (fun c_14 => ?_) (fun c_14 => ?_)
      · refine lv_aload_n hx hb dX3_wrongPlace_42 rfl (lv_at hl 2 rfl) ?_
        refine lv_iload_n hx hb dX3_wrongPlace_43 rfl (lv_at hl 3 rfl) ?_
        have hPc := hP.sub (ws' := [(tx, .inr (3, [.ref t0, .int (nI len)])), (t0, .inl (cI, 96, .inl lt))]) [0, 1] rfl
        refine vp_callSi (va_Run.run (va_runV (As := [.int (nI p0)]) (rest := []) ⟨hx, hb, hml, hown, hts⟩ (g_X3_digitsEnd l D cI cL cZ cC tx t0 len lt p0 (by first | assumption | decide +kernel) (by omega)) (cwV 1 hts gX3_wrongPlace_X3_digitsEnd rfl rfl rfl (by decide +kernel) ⟨Nat.le_of_ble_eq_true rfl, Nat.le_of_ble_eq_true rfl⟩) ⟨xPc_bl, va_recv hK hPc (ci := 3) (q0 := 0) rfl rfl, xPc_use hPc hK⟩ rfl rfl hl.1 rfl (lv_room (Nat.le_of_ble_eq_true rfl)) dX3_wrongPlace_44 ⟨Nat.le_of_ble_eq_true rfl, Nat.le_of_ble_eq_true rfl⟩)) (fun r_15 er_15 => ?_)
        obtain rfl : (nI (xDe lt len p0) : Int32) = r_15 := Eq.symm er_15
        refine lv_istore (lv' := [(4, .int (nI (xDe lt len p0))), (3, .int (nI (xDp lt len p0))), (2, .int (sMd (xAt lt len p0))), (0, .ref tx), (1, .int (nI p0))]) hx hb dX3_wrongPlace_47 hl (by decide) rfl (fun ls hl => ?_)
        refine lv_iload hx hb dX3_wrongPlace_49 (lv_at hl 0 rfl) ?_
        refine lv_iload_n hx hb dX3_wrongPlace_51 rfl (lv_at hl 1 rfl) ?_
        refine lv_isub hx hb dX3_wrongPlace_52 ?_
        refine xv_int (y := nI (xDe lt len p0 - xDp lt len p0)) (pk_sub hde.1) ?_
        refine lv_iload_n hx hb dX3_wrongPlace_53 rfl (lv_at hl 2 rfl) ?_
        refine lv_icmp_le (tgt := 61) hx hb dX3_wrongPlace_54 (by decide) (fun c_16 => ?_) (fun c_16 => ?_)
        · refine lv_iload hx hb dX3_wrongPlace_61 (lv_at hl 0 rfl) ?_
          refine lv_iload_n hx hb dX3_wrongPlace_63 rfl (lv_at hl 1 rfl) ?_
          refine lv_isub hx hb dX3_wrongPlace_64 ?_
          refine xv_int (y := nI (xDe lt len p0 - xDp lt len p0)) (pk_sub hde.1) ?_
          refine lv_aload_n hx hb dX3_wrongPlace_65 rfl (lv_at hl 3 rfl) ?_
          refine lv_iload_n hx hb dX3_wrongPlace_66 rfl (lv_at hl 4 rfl) ?_
          have hPc := hP.sub (ws' := [(tx, .inr (3, [.ref t0, .int (nI len)])), (t0, .inl (cI, 96, .inl lt))]) [0, 1] rfl
          refine vp_callSi (va_Run.run (va_runV (As := [.int (nI p0)]) (rest := [.int (nI (xDe lt len p0 - xDp lt len p0))]) ⟨hx, hb, hml, hown, hts⟩ (g_X3_at l D cI cL cZ cC tx t0 len lt p0 (by first | assumption | decide +kernel) (by omega)) (cwV 1 hts gX3_wrongPlace_X3_at rfl rfl rfl (by decide +kernel) ⟨Nat.le_of_ble_eq_true rfl, Nat.le_of_ble_eq_true rfl⟩) ⟨xPc_bl, va_recv hK hPc (ci := 3) (q0 := 0) rfl rfl, xPc_use hPc hK⟩ rfl rfl hl.1 rfl (lv_room (Nat.le_of_ble_eq_true rfl)) dX3_wrongPlace_67 ⟨Nat.le_of_ble_eq_true rfl, Nat.le_of_ble_eq_true rfl⟩)) (fun r_17 er_17 => ?_)
          obtain rfl : (xAt lt len p0 : Int32) = r_17 := Eq.symm er_17
          have hPc := hP.sub (ws' := []) [] rfl
          refine vp_callSi (va_Run.run (va_runS (As := [.int (xAt lt len p0)]) (rest := [.int (nI (xDe lt len p0 - xDp lt len p0))]) ⟨hx, hb, hml, hown, hts⟩ (g_X3_leastDigits l D cI cL cZ cC (xAt lt len p0) ) (va_cwS 1 hts gX3_wrongPlace_X3_leastDigits rfl rfl rfl (by decide +kernel) ⟨Nat.le_of_ble_eq_true rfl, Nat.le_of_ble_eq_true rfl⟩) ⟨xPc_bl, xPc_use hPc hK⟩ rfl rfl hl.1 rfl (lv_room (Nat.le_of_ble_eq_true rfl)) dX3_wrongPlace_70 ⟨Nat.le_of_ble_eq_true rfl, Nat.le_of_ble_eq_true rfl⟩)) (fun r_18 er_18 => ?_)
          obtain rfl : (sLd (xAt lt len p0) : Int32) = r_18 := Eq.symm er_18
          refine lv_icmp_lt (tgt := 87) hx hb dX3_wrongPlace_73 (by decide) (fun c_19 => ?_) (fun c_19 => ?_)
          · refine lv_iload hx hb dX3_wrongPlace_87 (lv_at hl 0 rfl) ?_
            refine lv_goto (tgt := 93) hx hb dX3_wrongPlace_89 (by decide) ?_
            exact W.iret (v := nI (xDe lt len p0)) hx hb hr (fun t ht hW => ⟨_, rfl, (by rw [xWp, if_neg c_3, if_pos (Int32.not_le.mp c_5), if_neg (Int32.not_lt.mpr c_14), xWp2, if_neg (Int32.not_lt.mpr c_16), if_pos c_19]), ht⟩) (fun _ h => absurd h List.not_mem_nil) dX3_wrongPlace_93
          · refine lv_aload_n hx hb dX3_wrongPlace_76 rfl (lv_at hl 3 rfl) ?_
            refine lv_iload hx hb dX3_wrongPlace_77 (lv_at hl 0 rfl) ?_
            have hPc := hP.sub (ws' := [(tx, .inr (3, [.ref t0, .int (nI len)])), (t0, .inl (cI, 96, .inl lt))]) [0, 1] rfl
            refine vp_callSi (va_Run.run (va_runV (As := [.int (nI (xDe lt len p0))]) (rest := []) ⟨hx, hb, hml, hown, hts⟩ (g_X3_at l D cI cL cZ cC tx t0 len lt (xDe lt len p0) (by first | assumption | decide +kernel) (by omega)) (cwV 1 hts gX3_wrongPlace_X3_at rfl rfl rfl (by decide +kernel) ⟨Nat.le_of_ble_eq_true rfl, Nat.le_of_ble_eq_true rfl⟩) ⟨xPc_bl, va_recv hK hPc (ci := 3) (q0 := 0) rfl rfl, xPc_use hPc hK⟩ rfl rfl hl.1 rfl (lv_room (Nat.le_of_ble_eq_true rfl)) dX3_wrongPlace_79 ⟨Nat.le_of_ble_eq_true rfl, Nat.le_of_ble_eq_true rfl⟩)) (fun r_20 er_20 => ?_)
            obtain rfl : (xAt lt len (xDe lt len p0) : Int32) = r_20 := Eq.symm er_20
            refine lv_bipush (v := 59) hx hb dX3_wrongPlace_82 (by decide) ?_
            refine lv_icmp_eq (tgt := 92) hx hb dX3_wrongPlace_84 (by decide) (fun c_21 => ?_) (fun c_21 => ?_)
            · refine lv_iconst (v := -1) hx hb dX3_wrongPlace_92 (by decide) ?_
              exact W.iret (v := -1) hx hb hr (fun t ht hW => ⟨_, rfl, (by rw [xWp, if_neg c_3, if_pos (Int32.not_le.mp c_5), if_neg (Int32.not_lt.mpr c_14), xWp2, if_neg (Int32.not_lt.mpr c_16), if_neg c_19, if_pos c_21]), ht⟩) (fun _ h => absurd h List.not_mem_nil) dX3_wrongPlace_93
            · refine lv_iload hx hb dX3_wrongPlace_87 (lv_at hl 0 rfl) ?_
              refine lv_goto (tgt := 93) hx hb dX3_wrongPlace_89 (by decide) ?_
              exact W.iret (v := nI (xDe lt len p0)) hx hb hr (fun t ht hW => ⟨_, rfl, (by rw [xWp, if_neg c_3, if_pos (Int32.not_le.mp c_5), if_neg (Int32.not_lt.mpr c_14), xWp2, if_neg (Int32.not_lt.mpr c_16), if_neg c_19, if_neg c_21]), ht⟩) (fun _ h => absurd h List.not_mem_nil) dX3_wrongPlace_93
        · refine lv_iload_n hx hb dX3_wrongPlace_57 rfl (lv_at hl 1 rfl) ?_
          refine lv_iload_n hx hb dX3_wrongPlace_58 rfl (lv_at hl 2 rfl) ?_
          refine lv_iadd hx hb dX3_wrongPlace_59 ?_
          exact W.iret (v := (nI (xDp lt len p0)) + (sMd (xAt lt len p0))) hx hb hr (fun t ht hW => ⟨_, rfl, (by rw [xWp, if_neg c_3, if_pos (Int32.not_le.mp c_5), if_neg (Int32.not_lt.mpr c_14), xWp2, if_pos (Int32.not_le.mp c_16)]), ht⟩) (fun _ h => absurd h List.not_mem_nil) dX3_wrongPlace_60
      · refine lv_iload_n hx hb dX3_wrongPlace_38 rfl (lv_at hl 3 rfl) ?_
        refine lv_iconst (v := 1) hx hb dX3_wrongPlace_39 (by decide) ?_
        refine lv_iadd hx hb dX3_wrongPlace_40 ?_
        refine xv_int (y := nI (p0 + 1)) (nI_1 p0) ?_
        exact W.iret (v := nI (p0 + 1)) hx hb hr (fun t ht hW => ⟨_, rfl, (by rw [xWp, if_neg c_3, if_pos (Int32.not_le.mp c_5), if_pos (Int32.not_le.mp c_14)]), ht⟩) (fun _ h => absurd h List.not_mem_nil) dX3_wrongPlace_41
  · refine lv_iload_n hx hb dX3_wrongPlace_13 rfl (lv_at hl 2 rfl) ?_
    exact W.iret (v := nI p0) hx hb hr (fun t ht hW => ⟨_, rfl, (by rw [xWp, if_pos c_3]), ht⟩) (fun _ h => absurd h List.not_mem_nil) dX3_wrongPlace_14

set_option maxHeartbeats 4000000 in
set_option maxRecDepth 100000 in
theorem g_X3_firstWrongPlace (l : Launch) (D : va_G) (cI cL cZ cC : ClassId) (ad : Nat) (av : Nat) (tx : Nat) (t0 : Nat) (len : Nat) (lt : Nat → Int32) (hl96 : len ≤ 96) : Met l yX3_firstWrongPlace wsX3_firstWrongPlace ({ frames := 6, cells := 0, slots := 0, locals := 136 } : Room) (sPc D ad av [.ref tx] [(tx, .inr (3, [.ref t0, .int (nI len)])), (t0, .inl (cI, 96, .inl lt))] (xTy cI cL cZ cC)) (vp_Si (fun r : Int32 => r = xF0 lt len)) 0 0 (fun _ => False) := by
  refine Met.ofW (cc := cX3_firstWrongPlace) (maxL := 4) (ret := (some .int)) (by decide) rfl ?_
  intro p e s m args below meth c s₁ B hml hv
  obtain ⟨rfl, hP, hK, hX9⟩ := hv
  have hx := B.exec
  have hb := B.bytes
  have hr := B.returns
  have hts := atoms_spec (ws := wsX3_firstWrongPlace) B.pre
  have hown : s.vm.findClass RX3 = some m.cls := findClass_of_methodNamed B.named
  have hlocks := B.notSynchronized
  have hwX3 : ∀ w ∈ u_ws RX3 TX3 2, w ∈ wsX3_firstWrongPlace := fun _ h => List.mem_cons_of_mem _ (List.mem_append_right _ h)
  have hl := lv_entry ([.ref tx]) (n := 4) (Nat.le_of_ble_eq_true rfl)
  rw [lg_entry_eq]
  generalize (lg_sl ([.ref tx]) ++ List.replicate (4 - (lg_sl ([.ref tx])).length) Slot.unset).toArray = ls at hl ⊢
  have hl : lv_has ls 4 [(0, .ref tx)] := hl
  have hdp := xDp_le lt len 0
  have hde := xDe_le lt len 0
  refine lv_aload_n hx hb dX3_firstWrongPlace_0 rfl (lv_at hl 0 rfl) ?_
  refine lv_iconst (v := 0) hx hb dX3_firstWrongPlace_1 (by decide) ?_
  have hPc := hP.sub (ws' := [(tx, .inr (3, [.ref t0, .int (nI len)])), (t0, .inl (cI, 96, .inl lt))]) [0, 1] rfl
  refine vp_callSi (va_Run.run (va_runV (As := [.int 0]) (rest := []) ⟨hx, hb, hml, hown, hts⟩ (g_X3_wrongPlace l D cI cL cZ cC ad av tx t0 len lt 0 (by first | assumption | decide +kernel) (by omega)) (cwV 1 hts gX3_firstWrongPlace_X3_wrongPlace rfl rfl rfl (by decide +kernel) ⟨Nat.le_of_ble_eq_true rfl, Nat.le_of_ble_eq_true rfl⟩) ⟨sPc_bl, va_recv hK hPc (ci := 3) (q0 := 0) rfl rfl, sPc_use hPc hK (xKs_use hX9 va_S.rf (fun _ h => h))⟩ rfl rfl hl.1 rfl (lv_room (Nat.le_of_ble_eq_true rfl)) dX3_firstWrongPlace_2 ⟨Nat.le_of_ble_eq_true rfl, Nat.le_of_ble_eq_true rfl⟩)) (fun r_1 er_1 => ?_)
  obtain rfl : (xWp lt len 0 : Int32) = r_1 := Eq.symm er_1
  refine lv_istore_n (lv' := [(1, .int (xWp lt len 0)), (0, .ref tx)]) hx hb dX3_firstWrongPlace_5 rfl hl (by decide) rfl (fun ls hl => ?_)
  refine lv_aload_n hx hb dX3_firstWrongPlace_6 rfl (lv_at hl 1 rfl) ?_
  refine lv_iconst (v := 0) hx hb dX3_firstWrongPlace_7 (by decide) ?_
  have hPc := hP.sub (ws' := [(tx, .inr (3, [.ref t0, .int (nI len)])), (t0, .inl (cI, 96, .inl lt))]) [0, 1] rfl
  refine vp_callSi (va_Run.run (va_runV (As := [.int 0]) (rest := []) ⟨hx, hb, hml, hown, hts⟩ (g_X3_digitsEnd l D cI cL cZ cC tx t0 len lt 0 (by first | assumption | decide +kernel) (by omega)) (cwV 1 hts gX3_firstWrongPlace_X3_digitsEnd rfl rfl rfl (by decide +kernel) ⟨Nat.le_of_ble_eq_true rfl, Nat.le_of_ble_eq_true rfl⟩) ⟨xPc_bl, va_recv hK hPc (ci := 3) (q0 := 0) rfl rfl, xPc_use hPc hK⟩ rfl rfl hl.1 rfl (lv_room (Nat.le_of_ble_eq_true rfl)) dX3_firstWrongPlace_8 ⟨Nat.le_of_ble_eq_true rfl, Nat.le_of_ble_eq_true rfl⟩)) (fun r_2 er_2 => ?_)
  obtain rfl : (nI (xDe lt len 0) : Int32) = r_2 := Eq.symm er_2
  refine lv_iconst (v := 1) hx hb dX3_firstWrongPlace_11 (by decide) ?_
  refine lv_iadd hx hb dX3_firstWrongPlace_12 ?_
  refine xv_int (y := nI (xDe lt len 0 + 1)) (nI_1 _) ?_
  refine lv_istore_n (lv' := [(2, .int (nI (xDe lt len 0 + 1))), (1, .int (xWp lt len 0)), (0, .ref tx)]) hx hb dX3_firstWrongPlace_13 rfl hl (by decide) rfl (fun ls hl => ?_)
  refine lv_iconst (v := 0) hx hb dX3_firstWrongPlace_14 (by decide) ?_
  refine lv_istore_n (lv' := [(3, .int 0), (2, .int (nI (xDe lt len 0 + 1))), (1, .int (xWp lt len 0)), (0, .ref tx)]) hx hb dX3_firstWrongPlace_15 rfl hl (by decide) rfl (fun ls hl => ?_)
  refine xl_loop (σ := Nat × Nat × Int32) (fun n q ls => lv_has ls 4 [(3, .int (nI q.1)), (2, .int (nI q.2.1)), (1, .int q.2.2), (0, .ref tx)] ∧ (len - q.1 < n) ∧ (q.1 ≤ len) ∧ (q.2.1 ≤ 110) ∧ (xFw lt len (len - q.1) q.2.1 q.2.2 = xF0 lt len)) (len + 1) (0, xDe lt len 0 + 1, xWp lt len 0) ⟨lv_sub hl [0, 1, 2, 3] rfl, by (try dsimp only); exact ⟨by omega, by omega, by omega, rfl⟩⟩ (fun q ls h => absurd h.2.1 (Nat.not_lt_zero _)) ?_
  intro n_16 q_16 ls ih_16 hI_16
  obtain ⟨hl, hI_16⟩ := hI_16
  obtain ⟨i, p9, w9⟩ := q_16
  obtain ⟨h1, h2, h3, h4⟩ := hI_16
  try dsimp only at hl h1 h2 h3 h4
  refine lv_iload_n hx hb dX3_firstWrongPlace_16 rfl (lv_at hl 0 rfl) ?_
  refine lv_aload_n hx hb dX3_firstWrongPlace_17 rfl (lv_at hl 3 rfl) ?_
  refine va_get (D := D) (ci := 3) (v := .int (nI len)) (C := RX3) (T := TX3) (N := 2) hx hb hts hwX3 hown hK hP 0 rfl rfl 1 (by decide) (hts (.fieldLink RX3 15 "WaitOrWalkOn$Text" "length" "I") (by decide +kernel)) (fun _ h9 => h9) rfl dX3_firstWrongPlace_18 ?_
  refine lv_icmp_ge (tgt := 56) hx hb dX3_firstWrongPlace_21 (by decide) (fun c_3 => ?_) (fun c_3 => ?_)
  · refine lv_iload_n hx hb dX3_firstWrongPlace_56 rfl (lv_at hl 2 rfl) ?_
    exact W.iret (v := w9) hx hb hr (fun t ht hW => ⟨_, rfl, (by have w := mt (nI_ltI (a := i) (b := len) (by omega) (by omega)).mpr (Int32.not_lt.mpr c_3); exact (xFw_z (by omega)).symm.trans h4), ht⟩) (fun _ h => absurd h List.not_mem_nil) dX3_firstWrongPlace_57
  · refine lv_iload_n hx hb dX3_firstWrongPlace_24 rfl (lv_at hl 1 rfl) ?_
    refine lv_aload_n hx hb dX3_firstWrongPlace_25 rfl (lv_at hl 3 rfl) ?_
    refine va_get (D := D) (ci := 3) (v := .int (nI len)) (C := RX3) (T := TX3) (N := 2) hx hb hts hwX3 hown hK hP 0 rfl rfl 1 (by decide) (hts (.fieldLink RX3 15 "WaitOrWalkOn$Text" "length" "I") (by decide +kernel)) (fun _ h9 => h9) rfl dX3_firstWrongPlace_26 ?_
    refine lv_icmp_ge (tgt := 56) hx hb dX3_firstWrongPlace_29 (by decide) (fun c_4 => ?_) (fun c_4 => ?_)
    · refine lv_iload_n hx hb dX3_firstWrongPlace_56 rfl (lv_at hl 2 rfl) ?_
      exact W.iret (v := w9) hx hb hr (fun t ht hW => ⟨_, rfl, (by have w1 := (nI_ltI (a := i) (b := len) (by omega) (by omega)).mp (Int32.not_le.mp c_3); have w2 := mt (nI_ltI (a := p9) (b := len) (by omega) (by omega)).mpr (Int32.not_lt.mpr c_4); exact (xFw_p w1 w2).symm.trans h4), ht⟩) (fun _ h => absurd h List.not_mem_nil) dX3_firstWrongPlace_57
    · refine lv_iload_n hx hb dX3_firstWrongPlace_32 rfl (lv_at hl 2 rfl) ?_
      refine lv_if_ge (tgt := 56) hx hb dX3_firstWrongPlace_33 (by decide) (fun c_5 => ?_) (fun c_5 => ?_)
      · refine lv_iload_n hx hb dX3_firstWrongPlace_56 rfl (lv_at hl 2 rfl) ?_
        exact W.iret (v := w9) hx hb hr (fun t ht hW => ⟨_, rfl, (by have w1 := (nI_ltI (a := i) (b := len) (by omega) (by omega)).mp (Int32.not_le.mp c_3); have w2 := (nI_ltI (a := p9) (b := len) (by omega) (by omega)).mp (Int32.not_le.mp c_4); exact (xFw_w w1 w2 (Int32.not_lt.mpr c_5)).symm.trans h4), ht⟩) (fun _ h => absurd h List.not_mem_nil) dX3_firstWrongPlace_57
      · refine lv_aload_n hx hb dX3_firstWrongPlace_36 rfl (lv_at hl 3 rfl) ?_
        refine lv_iload_n hx hb dX3_firstWrongPlace_37 rfl (lv_at hl 1 rfl) ?_
        have hPc := hP.sub (ws' := [(tx, .inr (3, [.ref t0, .int (nI len)])), (t0, .inl (cI, 96, .inl lt))]) [0, 1] rfl
        refine vp_callSi (va_Run.run (va_runV (As := [.int (nI p9)]) (rest := []) ⟨hx, hb, hml, hown, hts⟩ (g_X3_wrongPlace l D cI cL cZ cC ad av tx t0 len lt p9 (by first | assumption | decide +kernel) (by omega)) (cwV 1 hts gX3_firstWrongPlace_X3_wrongPlace rfl rfl rfl (by decide +kernel) ⟨Nat.le_of_ble_eq_true rfl, Nat.le_of_ble_eq_true rfl⟩) ⟨sPc_bl, va_recv hK hPc (ci := 3) (q0 := 0) rfl rfl, sPc_use hPc hK (xKs_use hX9 va_S.rf (fun _ h => h))⟩ rfl rfl hl.1 rfl (lv_room (Nat.le_of_ble_eq_true rfl)) dX3_firstWrongPlace_38 ⟨Nat.le_of_ble_eq_true rfl, Nat.le_of_ble_eq_true rfl⟩)) (fun r_6 er_6 => ?_)
        obtain rfl : (xWp lt len p9 : Int32) = r_6 := Eq.symm er_6
        refine lv_istore_n (lv' := [(1, .int (xWp lt len p9)), (3, .int (nI i)), (2, .int (nI p9)), (0, .ref tx)]) hx hb dX3_firstWrongPlace_41 rfl hl (by decide) rfl (fun ls hl => ?_)
        refine lv_aload_n hx hb dX3_firstWrongPlace_42 rfl (lv_at hl 3 rfl) ?_
        refine lv_iload_n hx hb dX3_firstWrongPlace_43 rfl (lv_at hl 2 rfl) ?_
        have hPc := hP.sub (ws' := [(tx, .inr (3, [.ref t0, .int (nI len)])), (t0, .inl (cI, 96, .inl lt))]) [0, 1] rfl
        refine vp_callSi (va_Run.run (va_runV (As := [.int (nI p9)]) (rest := []) ⟨hx, hb, hml, hown, hts⟩ (g_X3_digitsEnd l D cI cL cZ cC tx t0 len lt p9 (by first | assumption | decide +kernel) (by omega)) (cwV 1 hts gX3_firstWrongPlace_X3_digitsEnd rfl rfl rfl (by decide +kernel) ⟨Nat.le_of_ble_eq_true rfl, Nat.le_of_ble_eq_true rfl⟩) ⟨xPc_bl, va_recv hK hPc (ci := 3) (q0 := 0) rfl rfl, xPc_use hPc hK⟩ rfl rfl hl.1 rfl (lv_room (Nat.le_of_ble_eq_true rfl)) dX3_firstWrongPlace_44 ⟨Nat.le_of_ble_eq_true rfl, Nat.le_of_ble_eq_true rfl⟩)) (fun r_7 er_7 => ?_)
        obtain rfl : (nI (xDe lt len p9) : Int32) = r_7 := Eq.symm er_7
        refine lv_iconst (v := 1) hx hb dX3_firstWrongPlace_47 (by decide) ?_
        refine lv_iadd hx hb dX3_firstWrongPlace_48 ?_
        refine xv_int (y := nI (xDe lt len p9 + 1)) (nI_1 _) ?_
        refine lv_istore_n (lv' := [(2, .int (nI (xDe lt len p9 + 1))), (1, .int (xWp lt len p9)), (3, .int (nI i)), (0, .ref tx)]) hx hb dX3_firstWrongPlace_49 rfl hl (by decide) rfl (fun ls hl => ?_)
        refine lv_iinc (v := nI (i + 1)) (lv' := [(3, .int (nI (i + 1))), (2, .int (nI (xDe lt len p9 + 1))), (1, .int (xWp lt len p9)), (0, .ref tx)]) hx hb dX3_firstWrongPlace_50 hl (k := 2) rfl (nI_1 i) (by decide) rfl (fun ls hl => ?_)
        refine lv_goto (tgt := 16) hx hb dX3_firstWrongPlace_53 (by decide) ?_
        have w1 := (nI_ltI (a := i) (b := len) (by omega) (by omega)).mp (Int32.not_le.mp c_3)
        have w2 := (nI_ltI (a := p9) (b := len) (by omega) (by omega)).mp (Int32.not_le.mp c_4)
        have hdp := xDp_le lt len p9
        have hde := xDe_le lt len p9
        have e4 := (xFw_s w1 w2 (Int32.not_le.mp c_5)).trans h4
        exact ih_16 (i + 1, xDe lt len p9 + 1, xWp lt len p9) _ ⟨lv_sub hl [0, 1, 2, 3] rfl, by (try dsimp only); exact ⟨by omega, by omega, by omega, e4⟩⟩

/-! a line taken -/

set_option maxHeartbeats 4000000 in
set_option maxRecDepth 100000 in
theorem g_X3_takeLine (l : Launch) (D : va_G) (cI cL cZ cC : ClassId) (sz : Nat) (ad : Nat) (av : Nat) (tx : Nat) (t0 : Nat) (len : Nat) (lt : Nat → Int32) (rd : Nat) (r0 : Nat) (r1 : Nat) (st : Nat) (ln : Nat) (ho : Int32) (pa : Int32) (si : Int32) (li : Int32) (lg : Nat → Int32) (la : Nat → Nat) (lk : Nat → Nat) (ki : Nat → Int32) (ru : Nat → Int32) (ne : Nat → Int32) (ch : Nat → Nat → Int32) (p0 : Nat) (hl96 : len ≤ 96) (hp : p0 ≤ 400) (hs1 : 1 ≤ st) (hs7 : st ≤ 7) (hln : ln ≤ 3) : Met l yX3_takeLine wsX3_takeLine ({ frames := 5, cells := 0, slots := 0, locals := 112 } : Room) (wPcS D ad av [.ref tx, .ref rd, .int (nI p0)] [(tx, .inr (3, [.ref t0, .int (nI len)])), (t0, .inl (cI, 96, .inl lt)), (rd, .inr (2, [.int (nI st), .int ho, .int pa, .int si, .int li, .int (nI ln), .ref r0, .ref r1])), (r0, .inl (cI, 7, .inl lg)), (r1, .inl (cL, 3, .inr (.inr (.inr (.inr (xL3 (la 0) (la 1) (la 2))))))), (la 0, .inr (0, [.int (ki 0), .int (ru 0), .int (ne 0), .ref (lk 0)])), (lk 0, .inl (cI, 12, .inl (ch 0))), (la 1, .inr (0, [.int (ki 1), .int (ru 1), .int (ne 1), .ref (lk 1)])), (lk 1, .inl (cI, 12, .inl (ch 1))), (la 2, .inr (0, [.int (ki 2), .int (ru 2), .int (ne 2), .ref (lk 2)])), (lk 2, .inl (cI, 12, .inl (ch 2)))] (xTy cI cL cZ cC) sz) (va_Qi (fun (r : Int32) (_ : Unit) => r = (xTL lt len p0 (st, ln, ho, pa, si, li, lg, ki, ru, ne, ch)).2) (fun (_ : Unit) t => va_P D vwCl [(tx, .inr (3, [.ref t0, .int (nI len)])), (t0, .inl (cI, 96, .inl lt)), (rd, .inr (2, [.int (nI (((xTL lt len p0 (st, ln, ho, pa, si, li, lg, ki, ru, ne, ch)).1).1)), .int (((xTL lt len p0 (st, ln, ho, pa, si, li, lg, ki, ru, ne, ch)).1).2.2.1), .int (((xTL lt len p0 (st, ln, ho, pa, si, li, lg, ki, ru, ne, ch)).1).2.2.2.1), .int (((xTL lt len p0 (st, ln, ho, pa, si, li, lg, ki, ru, ne, ch)).1).2.2.2.2.1), .int (((xTL lt len p0 (st, ln, ho, pa, si, li, lg, ki, ru, ne, ch)).1).2.2.2.2.2.1), .int (nI (((xTL lt len p0 (st, ln, ho, pa, si, li, lg, ki, ru, ne, ch)).1).2.1)), .ref r0, .ref r1])), (r0, .inl (cI, 7, .inl (((xTL lt len p0 (st, ln, ho, pa, si, li, lg, ki, ru, ne, ch)).1).2.2.2.2.2.2.1))), (r1, .inl (cL, 3, .inr (.inr (.inr (.inr (xL3 (la 0) (la 1) (la 2))))))), (la 0, .inr (0, [.int ((((xTL lt len p0 (st, ln, ho, pa, si, li, lg, ki, ru, ne, ch)).1).2.2.2.2.2.2.2.1) 0), .int ((((xTL lt len p0 (st, ln, ho, pa, si, li, lg, ki, ru, ne, ch)).1).2.2.2.2.2.2.2.2.1) 0), .int ((((xTL lt len p0 (st, ln, ho, pa, si, li, lg, ki, ru, ne, ch)).1).2.2.2.2.2.2.2.2.2.1) 0), .ref (lk 0)])), (lk 0, .inl (cI, 12, .inl ((((xTL lt len p0 (st, ln, ho, pa, si, li, lg, ki, ru, ne, ch)).1).2.2.2.2.2.2.2.2.2.2) 0))), (la 1, .inr (0, [.int ((((xTL lt len p0 (st, ln, ho, pa, si, li, lg, ki, ru, ne, ch)).1).2.2.2.2.2.2.2.1) 1), .int ((((xTL lt len p0 (st, ln, ho, pa, si, li, lg, ki, ru, ne, ch)).1).2.2.2.2.2.2.2.2.1) 1), .int ((((xTL lt len p0 (st, ln, ho, pa, si, li, lg, ki, ru, ne, ch)).1).2.2.2.2.2.2.2.2.2.1) 1), .ref (lk 1)])), (lk 1, .inl (cI, 12, .inl ((((xTL lt len p0 (st, ln, ho, pa, si, li, lg, ki, ru, ne, ch)).1).2.2.2.2.2.2.2.2.2.2) 1))), (la 2, .inr (0, [.int ((((xTL lt len p0 (st, ln, ho, pa, si, li, lg, ki, ru, ne, ch)).1).2.2.2.2.2.2.2.1) 2), .int ((((xTL lt len p0 (st, ln, ho, pa, si, li, lg, ki, ru, ne, ch)).1).2.2.2.2.2.2.2.2.1) 2), .int ((((xTL lt len p0 (st, ln, ho, pa, si, li, lg, ki, ru, ne, ch)).1).2.2.2.2.2.2.2.2.2.1) 2), .ref (lk 2)])), (lk 2, .inl (cI, 12, .inl ((((xTL lt len p0 (st, ln, ho, pa, si, li, lg, ki, ru, ne, ch)).1).2.2.2.2.2.2.2.2.2.2) 2)))] t.heap ∧ va_D (va_A [(tx, .inr (3, [.ref t0, .int (nI len)])), (t0, .inl (cI, 96, .inl lt)), (rd, .inr (2, [.int (nI st), .int ho, .int pa, .int si, .int li, .int (nI ln), .ref r0, .ref r1])), (r0, .inl (cI, 7, .inl lg)), (r1, .inl (cL, 3, .inr (.inr (.inr (.inr (xL3 (la 0) (la 1) (la 2))))))), (la 0, .inr (0, [.int (ki 0), .int (ru 0), .int (ne 0), .ref (lk 0)])), (lk 0, .inl (cI, 12, .inl (ch 0))), (la 1, .inr (0, [.int (ki 1), .int (ru 1), .int (ne 1), .ref (lk 1)])), (lk 1, .inl (cI, 12, .inl (ch 1))), (la 2, .inr (0, [.int (ki 2), .int (ru 2), .int (ne 2), .ref (lk 2)])), (lk 2, .inl (cI, 12, .inl (ch 2)))] sz) [(tx, .inr (3, [.ref t0, .int (nI len)])), (t0, .inl (cI, 96, .inl lt)), (rd, .inr (2, [.int (nI (((xTL lt len p0 (st, ln, ho, pa, si, li, lg, ki, ru, ne, ch)).1).1)), .int (((xTL lt len p0 (st, ln, ho, pa, si, li, lg, ki, ru, ne, ch)).1).2.2.1), .int (((xTL lt len p0 (st, ln, ho, pa, si, li, lg, ki, ru, ne, ch)).1).2.2.2.1), .int (((xTL lt len p0 (st, ln, ho, pa, si, li, lg, ki, ru, ne, ch)).1).2.2.2.2.1), .int (((xTL lt len p0 (st, ln, ho, pa, si, li, lg, ki, ru, ne, ch)).1).2.2.2.2.2.1), .int (nI (((xTL lt len p0 (st, ln, ho, pa, si, li, lg, ki, ru, ne, ch)).1).2.1)), .ref r0, .ref r1])), (r0, .inl (cI, 7, .inl (((xTL lt len p0 (st, ln, ho, pa, si, li, lg, ki, ru, ne, ch)).1).2.2.2.2.2.2.1))), (r1, .inl (cL, 3, .inr (.inr (.inr (.inr (xL3 (la 0) (la 1) (la 2))))))), (la 0, .inr (0, [.int ((((xTL lt len p0 (st, ln, ho, pa, si, li, lg, ki, ru, ne, ch)).1).2.2.2.2.2.2.2.1) 0), .int ((((xTL lt len p0 (st, ln, ho, pa, si, li, lg, ki, ru, ne, ch)).1).2.2.2.2.2.2.2.2.1) 0), .int ((((xTL lt len p0 (st, ln, ho, pa, si, li, lg, ki, ru, ne, ch)).1).2.2.2.2.2.2.2.2.2.1) 0), .ref (lk 0)])), (lk 0, .inl (cI, 12, .inl ((((xTL lt len p0 (st, ln, ho, pa, si, li, lg, ki, ru, ne, ch)).1).2.2.2.2.2.2.2.2.2.2) 0))), (la 1, .inr (0, [.int ((((xTL lt len p0 (st, ln, ho, pa, si, li, lg, ki, ru, ne, ch)).1).2.2.2.2.2.2.2.1) 1), .int ((((xTL lt len p0 (st, ln, ho, pa, si, li, lg, ki, ru, ne, ch)).1).2.2.2.2.2.2.2.2.1) 1), .int ((((xTL lt len p0 (st, ln, ho, pa, si, li, lg, ki, ru, ne, ch)).1).2.2.2.2.2.2.2.2.2.1) 1), .ref (lk 1)])), (lk 1, .inl (cI, 12, .inl ((((xTL lt len p0 (st, ln, ho, pa, si, li, lg, ki, ru, ne, ch)).1).2.2.2.2.2.2.2.2.2.2) 1))), (la 2, .inr (0, [.int ((((xTL lt len p0 (st, ln, ho, pa, si, li, lg, ki, ru, ne, ch)).1).2.2.2.2.2.2.2.1) 2), .int ((((xTL lt len p0 (st, ln, ho, pa, si, li, lg, ki, ru, ne, ch)).1).2.2.2.2.2.2.2.2.1) 2), .int ((((xTL lt len p0 (st, ln, ho, pa, si, li, lg, ki, ru, ne, ch)).1).2.2.2.2.2.2.2.2.2.1) 2), .ref (lk 2)])), (lk 2, .inl (cI, 12, .inl ((((xTL lt len p0 (st, ln, ho, pa, si, li, lg, ki, ru, ne, ch)).1).2.2.2.2.2.2.2.2.2.2) 2)))]) (va_A [(tx, .inr (3, [.ref t0, .int (nI len)])), (t0, .inl (cI, 96, .inl lt)), (rd, .inr (2, [.int (nI st), .int ho, .int pa, .int si, .int li, .int (nI ln), .ref r0, .ref r1])), (r0, .inl (cI, 7, .inl lg)), (r1, .inl (cL, 3, .inr (.inr (.inr (.inr (xL3 (la 0) (la 1) (la 2))))))), (la 0, .inr (0, [.int (ki 0), .int (ru 0), .int (ne 0), .ref (lk 0)])), (lk 0, .inl (cI, 12, .inl (ch 0))), (la 1, .inr (0, [.int (ki 1), .int (ru 1), .int (ne 1), .ref (lk 1)])), (lk 1, .inl (cI, 12, .inl (ch 1))), (la 2, .inr (0, [.int (ki 2), .int (ru 2), .int (ne 2), .ref (lk 2)])), (lk 2, .inl (cI, 12, .inl (ch 2)))] sz)) 0 0 (va_A [(tx, .inr (3, [.ref t0, .int (nI len)])), (t0, .inl (cI, 96, .inl lt)), (rd, .inr (2, [.int (nI st), .int ho, .int pa, .int si, .int li, .int (nI ln), .ref r0, .ref r1])), (r0, .inl (cI, 7, .inl lg)), (r1, .inl (cL, 3, .inr (.inr (.inr (.inr (xL3 (la 0) (la 1) (la 2))))))), (la 0, .inr (0, [.int (ki 0), .int (ru 0), .int (ne 0), .ref (lk 0)])), (lk 0, .inl (cI, 12, .inl (ch 0))), (la 1, .inr (0, [.int (ki 1), .int (ru 1), .int (ne 1), .ref (lk 1)])), (lk 1, .inl (cI, 12, .inl (ch 1))), (la 2, .inr (0, [.int (ki 2), .int (ru 2), .int (ne 2), .ref (lk 2)])), (lk 2, .inl (cI, 12, .inl (ch 2)))] sz) := by
  refine Met.ofW (cc := cX3_takeLine) (maxL := 7) (ret := (some .boolean)) (by decide) rfl ?_
  intro p e s m args below meth c s₁ B hml hv
  obtain ⟨rfl, hsz, hP, hK, hD0, hX9⟩ := hv
  have hx := B.exec
  have hb := B.bytes
  have hr := B.returns
  have hts := atoms_spec (ws := wsX3_takeLine) B.pre
  have hown : s.vm.findClass RX3 = some m.cls := findClass_of_methodNamed B.named
  have hlocks := B.notSynchronized
  have hwX0 : ∀ w ∈ u_ws RX0 TX0 4, w ∈ wsX3_takeLine := fun _ h => List.mem_cons_of_mem _ (List.mem_append_left _ (List.mem_append_right _ h))
  have hwX2 : ∀ w ∈ u_ws RX2 TX2 8, w ∈ wsX3_takeLine := fun _ h => List.mem_cons_of_mem _ (List.mem_append_left _ (List.mem_append_left _ (List.mem_append_right _ h)))
  subst hsz
  have hD := hD0.self (sz := s.heap.size)
  generalize hAe : va_A [(tx, .inr (3, [.ref t0, .int (nI len)])), (t0, .inl (cI, 96, .inl lt)), (rd, .inr (2, [.int (nI st), .int ho, .int pa, .int si, .int li, .int (nI ln), .ref r0, .ref r1])), (r0, .inl (cI, 7, .inl lg)), (r1, .inl (cL, 3, .inr (.inr (.inr (.inr (xL3 (la 0) (la 1) (la 2))))))), (la 0, .inr (0, [.int (ki 0), .int (ru 0), .int (ne 0), .ref (lk 0)])), (lk 0, .inl (cI, 12, .inl (ch 0))), (la 1, .inr (0, [.int (ki 1), .int (ru 1), .int (ne 1), .ref (lk 1)])), (lk 1, .inl (cI, 12, .inl (ch 1))), (la 2, .inr (0, [.int (ki 2), .int (ru 2), .int (ne 2), .ref (lk 2)])), (lk 2, .inl (cI, 12, .inl (ch 2)))] s.heap.size = A at hD hX9 ⊢
  have hA : ∀ q : Nat, s.heap.size ≤ q → A q := fun q h => by rw [← hAe]; exact Or.inr h
  have hS : va_S A s.heap s.heap [] := va_S.rf
  have hP : va_P D vwCl [(tx, .inr (3, [.ref t0, .int (nI len)])), (t0, .inl (cI, 96, .inl lt)), (rd, .inr (2, [.int (nI st), .int ho, .int pa, .int si, .int li, .int (nI ln), .ref r0, .ref r1])), (r0, .inl (cI, 7, .inl lg)), (r1, .inl (cL, 3, .inr (.inr (.inr (.inr (xL3 (la 0) (la 1) (la 2))))))), (la 0, .inr (0, [.int (ki 0), .int (ru 0), .int (ne 0), .ref (lk 0)])), (lk 0, .inl (cI, 12, .inl (ch 0))), (la 1, .inr (0, [.int (ki 1), .int (ru 1), .int (ne 1), .ref (lk 1)])), (lk 1, .inl (cI, 12, .inl (ch 1))), (la 2, .inr (0, [.int (ki 2), .int (ru 2), .int (ne 2), .ref (lk 2)])), (lk 2, .inl (cI, 12, .inl (ch 2)))] s.heap := hP
  have hl := lv_entry ([.ref tx, .ref rd, .int (nI p0)]) (n := 7) (Nat.le_of_ble_eq_true rfl)
  rw [lg_entry_eq]
  generalize (lg_sl ([.ref tx, .ref rd, .int (nI p0)]) ++ List.replicate (7 - (lg_sl ([.ref tx, .ref rd, .int (nI p0)])).length) Slot.unset).toArray = ls at hl ⊢
  have hl : lv_has ls 7 [(0, .ref tx), (1, .ref rd), (2, .int (nI p0))] := hl
  have hdp := xDp_le lt len p0
  have hde := xDe_le lt len p0
  rcases (show ln = 0 ∨ ln = 1 ∨ ln = 2 ∨ ln = 3 by omega) with rfl | rfl | rfl | rfl
  · refine lv_aload_n hx hb dX3_takeLine_0 rfl (lv_at hl 1 rfl) ?_
    refine va_get (D := D) (ci := 2) (v := .int (nI 0)) (C := RX2) (T := TX2) (N := 8) hx hb hts hwX2 hown hK hP 2 rfl rfl 5 (by decide) (hts (.fieldLink RX3 78 "WaitOrWalkOn$Road" "lineCount" "I") (by decide +kernel)) (fun _ h9 => h9) rfl dX3_takeLine_1 ?_
    refine lv_iconst (v := 3) hx hb dX3_takeLine_4 (by decide) ?_
    refine lv_icmp_lt (tgt := 10) hx hb dX3_takeLine_5 (by decide) (fun c_1 => ?_) (fun c_1 => absurd (show nI 0 < 3 by decide +kernel) c_1)
    refine lv_aload_n hx hb dX3_takeLine_10 rfl (lv_at hl 1 rfl) ?_
    refine va_get (D := D) (ci := 2) (v := .ref r1) (C := RX2) (T := TX2) (N := 8) hx hb hts hwX2 hown hK hP 2 rfl rfl 7 (by decide) (hts (.fieldLink RX3 81 "WaitOrWalkOn$Road" "lines" "[LWaitOrWalkOn$Line;") (by decide +kernel)) (fun _ h9 => h9) rfl dX3_takeLine_11 ?_
    refine lv_aload_n hx hb dX3_takeLine_14 rfl (lv_at hl 1 rfl) ?_
    refine va_get (D := D) (ci := 2) (v := .int (nI 0)) (C := RX2) (T := TX2) (N := 8) hx hb hts hwX2 hown hK hP 2 rfl rfl 5 (by decide) (hts (.fieldLink RX3 78 "WaitOrWalkOn$Road" "lineCount" "I") (by decide +kernel)) (fun _ h9 => h9) rfl dX3_takeLine_15 ?_
    refine va_aldq (D := D) hx hb hK hP 4 1 rfl rfl (vp_in_nI (by decide) (by decide)) dX3_takeLine_18 ?_
    refine xv_ref (y := la 0) (xL3_at (by decide)) ?_
    refine lv_astore_n (lv' := [(3, .ref (la 0)), (0, .ref tx), (1, .ref rd), (2, .int (nI p0))]) hx hb dX3_takeLine_19 rfl hl (by decide) rfl (fun ls hl => ?_)
    refine lv_aload_n hx hb dX3_takeLine_20 rfl (lv_at hl 1 rfl) ?_
    refine lv_iload_n hx hb dX3_takeLine_21 rfl (lv_at hl 3 rfl) ?_
    have hPc := hP.sub (ws' := [(tx, .inr (3, [.ref t0, .int (nI len)])), (t0, .inl (cI, 96, .inl lt))]) [0, 1] rfl
    refine vp_callSi (va_Run.run (va_runV (As := [.int (nI p0)]) (rest := []) ⟨hx, hb, hml, hown, hts⟩ (g_X3_digitsPlace l D cI cL cZ cC tx t0 len lt p0 (by first | assumption | decide +kernel) (by omega)) (cwV 1 hts gX3_takeLine_X3_digitsPlace rfl rfl rfl (by decide +kernel) ⟨Nat.le_of_ble_eq_true rfl, Nat.le_of_ble_eq_true rfl⟩) ⟨xPc_bl, va_recv hK hPc (ci := 3) (q0 := 0) rfl rfl, xPc_use hPc hK⟩ rfl rfl hl.1 rfl (lv_room (Nat.le_of_ble_eq_true rfl)) dX3_takeLine_22 ⟨Nat.le_of_ble_eq_true rfl, Nat.le_of_ble_eq_true rfl⟩)) (fun r_2 er_2 => ?_)
    obtain rfl : (nI (xDp lt len p0) : Int32) = r_2 := Eq.symm er_2
    refine lv_istore (lv' := [(4, .int (nI (xDp lt len p0))), (3, .ref (la 0)), (0, .ref tx), (1, .ref rd), (2, .int (nI p0))]) hx hb dX3_takeLine_25 hl (by decide) rfl (fun ls hl => ?_)
    refine lv_aload_n hx hb dX3_takeLine_27 rfl (lv_at hl 1 rfl) ?_
    refine lv_aload_n hx hb dX3_takeLine_28 rfl (lv_at hl 2 rfl) ?_
    refine lv_iload_n hx hb dX3_takeLine_29 rfl (lv_at hl 4 rfl) ?_
    refine lv_iconst (v := 1) hx hb dX3_takeLine_30 (by decide) ?_
    refine lv_iadd hx hb dX3_takeLine_31 ?_
    refine xv_int (y := nI (p0 + 1)) (nI_1 p0) ?_
    have hPc := hP.sub (ws' := [(tx, .inr (3, [.ref t0, .int (nI len)])), (t0, .inl (cI, 96, .inl lt))]) [0, 1] rfl
    refine vp_callSi (va_Run.run (va_runV (As := [.int (nI (p0 + 1))]) (rest := [.ref (la 0)]) ⟨hx, hb, hml, hown, hts⟩ (g_X3_kindAt l D cI cL cZ cC ad av tx t0 len lt (p0 + 1) (by first | assumption | decide +kernel) (by omega)) (cwV 1 hts gX3_takeLine_X3_kindAt rfl rfl rfl (by decide +kernel) ⟨Nat.le_of_ble_eq_true rfl, Nat.le_of_ble_eq_true rfl⟩) ⟨sPc_bl, va_recv hK hPc (ci := 3) (q0 := 0) rfl rfl, sPc_use hPc hK (xKs_use hX9 hS (fun _ h => h.elim))⟩ rfl rfl hl.1 rfl (lv_room (Nat.le_of_ble_eq_true rfl)) dX3_takeLine_32 ⟨Nat.le_of_ble_eq_true rfl, Nat.le_of_ble_eq_true rfl⟩)) (fun r_3 er_3 => ?_)
    obtain rfl : (xKd lt len (p0 + 1) : Int32) = r_3 := Eq.symm er_3
    refine va_put (D := D) (ci := 0) (v := .int (xKd lt len (p0 + 1))) (ty := .int) (C := RX0) (T := TX0) (N := 4) hx hb hts hwX0 tyX0 tyX0_ok nmX0 hown hK hP hD hS 5 rfl rfl 0 (by decide) (hts (.fieldLink RX3 85 "WaitOrWalkOn$Line" "kind" "I") (by decide +kernel)) (fun _ h9 => h9) rfl (by decide +kernel) rfl rfl (Nat.le_of_ble_eq_true rfl) dX3_takeLine_35 (fun H locs hP hD hS => ?_)
    have hP : va_P D vwCl [(tx, .inr (3, [.ref t0, .int (nI len)])), (t0, .inl (cI, 96, .inl lt)), (rd, .inr (2, [.int (nI st), .int ho, .int pa, .int si, .int li, .int (nI 0), .ref r0, .ref r1])), (r0, .inl (cI, 7, .inl lg)), (r1, .inl (cL, 3, .inr (.inr (.inr (.inr (xL3 (la 0) (la 1) (la 2))))))), (la 0, .inr (0, [.int (xKd lt len (p0 + 1)), .int (ru 0), .int (ne 0), .ref (lk 0)])), (lk 0, .inl (cI, 12, .inl (ch 0))), (la 1, .inr (0, [.int (ki 1), .int (ru 1), .int (ne 1), .ref (lk 1)])), (lk 1, .inl (cI, 12, .inl (ch 1))), (la 2, .inr (0, [.int (ki 2), .int (ru 2), .int (ne 2), .ref (lk 2)])), (lk 2, .inl (cI, 12, .inl (ch 2)))] H := hP
    have hD : va_D A [(tx, .inr (3, [.ref t0, .int (nI len)])), (t0, .inl (cI, 96, .inl lt)), (rd, .inr (2, [.int (nI st), .int ho, .int pa, .int si, .int li, .int (nI 0), .ref r0, .ref r1])), (r0, .inl (cI, 7, .inl lg)), (r1, .inl (cL, 3, .inr (.inr (.inr (.inr (xL3 (la 0) (la 1) (la 2))))))), (la 0, .inr (0, [.int (xKd lt len (p0 + 1)), .int (ru 0), .int (ne 0), .ref (lk 0)])), (lk 0, .inl (cI, 12, .inl (ch 0))), (la 1, .inr (0, [.int (ki 1), .int (ru 1), .int (ne 1), .ref (lk 1)])), (lk 1, .inl (cI, 12, .inl (ch 1))), (la 2, .inr (0, [.int (ki 2), .int (ru 2), .int (ne 2), .ref (lk 2)])), (lk 2, .inl (cI, 12, .inl (ch 2)))] := hD
    refine lv_aload_n hx hb dX3_takeLine_38 rfl (lv_at hl 1 rfl) ?_
    refine lv_aload_n hx hb dX3_takeLine_39 rfl (lv_at hl 2 rfl) ?_
    refine lv_iload hx hb dX3_takeLine_40 (lv_at hl 0 rfl) ?_
    have hPc := hP.sub (ws' := [(tx, .inr (3, [.ref t0, .int (nI len)])), (t0, .inl (cI, 96, .inl lt))]) [0, 1] rfl
    refine vp_callSi (va_Run.run (va_runV (As := [.int (nI (xDp lt len p0))]) (rest := [.ref (la 0)]) ⟨hx, hb, hml, hown, hts⟩ (g_X3_digit l D cI cL cZ cC tx t0 len lt (xDp lt len p0) (by first | assumption | decide +kernel) (by omega)) (cwV 1 hts gX3_takeLine_X3_digit rfl rfl rfl (by decide +kernel) ⟨Nat.le_of_ble_eq_true rfl, Nat.le_of_ble_eq_true rfl⟩) ⟨xPc_bl, va_recv hK hPc (ci := 3) (q0 := 0) rfl rfl, xPc_use hPc hK⟩ rfl rfl hl.1 rfl (lv_room (Nat.le_of_ble_eq_true rfl)) dX3_takeLine_42 ⟨Nat.le_of_ble_eq_true rfl, Nat.le_of_ble_eq_true rfl⟩)) (fun r_4 er_4 => ?_)
    obtain rfl : (xDg lt len (xDp lt len p0) : Int32) = r_4 := Eq.symm er_4
    refine va_put (D := D) (ci := 0) (v := .int (xDg lt len (xDp lt len p0))) (ty := .int) (C := RX0) (T := TX0) (N := 4) hx hb hts hwX0 tyX0 tyX0_ok nmX0 hown hK hP hD hS 5 rfl rfl 1 (by decide) (hts (.fieldLink RX3 90 "WaitOrWalkOn$Line" "run" "I") (by decide +kernel)) (fun _ h9 => h9) rfl (by decide +kernel) rfl rfl (Nat.le_of_ble_eq_true rfl) dX3_takeLine_45 (fun H locs hP hD hS => ?_)
    have hP : va_P D vwCl [(tx, .inr (3, [.ref t0, .int (nI len)])), (t0, .inl (cI, 96, .inl lt)), (rd, .inr (2, [.int (nI st), .int ho, .int pa, .int si, .int li, .int (nI 0), .ref r0, .ref r1])), (r0, .inl (cI, 7, .inl lg)), (r1, .inl (cL, 3, .inr (.inr (.inr (.inr (xL3 (la 0) (la 1) (la 2))))))), (la 0, .inr (0, [.int (xKd lt len (p0 + 1)), .int (xDg lt len (xDp lt len p0)), .int (ne 0), .ref (lk 0)])), (lk 0, .inl (cI, 12, .inl (ch 0))), (la 1, .inr (0, [.int (ki 1), .int (ru 1), .int (ne 1), .ref (lk 1)])), (lk 1, .inl (cI, 12, .inl (ch 1))), (la 2, .inr (0, [.int (ki 2), .int (ru 2), .int (ne 2), .ref (lk 2)])), (lk 2, .inl (cI, 12, .inl (ch 2)))] H := hP
    have hD : va_D A [(tx, .inr (3, [.ref t0, .int (nI len)])), (t0, .inl (cI, 96, .inl lt)), (rd, .inr (2, [.int (nI st), .int ho, .int pa, .int si, .int li, .int (nI 0), .ref r0, .ref r1])), (r0, .inl (cI, 7, .inl lg)), (r1, .inl (cL, 3, .inr (.inr (.inr (.inr (xL3 (la 0) (la 1) (la 2))))))), (la 0, .inr (0, [.int (xKd lt len (p0 + 1)), .int (xDg lt len (xDp lt len p0)), .int (ne 0), .ref (lk 0)])), (lk 0, .inl (cI, 12, .inl (ch 0))), (la 1, .inr (0, [.int (ki 1), .int (ru 1), .int (ne 1), .ref (lk 1)])), (lk 1, .inl (cI, 12, .inl (ch 1))), (la 2, .inr (0, [.int (ki 2), .int (ru 2), .int (ne 2), .ref (lk 2)])), (lk 2, .inl (cI, 12, .inl (ch 2)))] := hD
    refine lv_aload_n hx hb dX3_takeLine_48 rfl (lv_at hl 1 rfl) ?_
    refine lv_aload_n hx hb dX3_takeLine_49 rfl (lv_at hl 2 rfl) ?_
    refine lv_iload hx hb dX3_takeLine_50 (lv_at hl 0 rfl) ?_
    refine lv_iconst (v := 1) hx hb dX3_takeLine_52 (by decide) ?_
    refine lv_iadd hx hb dX3_takeLine_53 ?_
    refine xv_int (y := nI (xDp lt len p0 + 1)) (nI_1 _) ?_
    have hPc := hP.sub (ws' := [(tx, .inr (3, [.ref t0, .int (nI len)])), (t0, .inl (cI, 96, .inl lt))]) [0, 1] rfl
    refine vp_callSi (va_Run.run (va_runV (As := [.int (nI (xDp lt len p0 + 1))]) (rest := [.ref (la 0)]) ⟨hx, hb, hml, hown, hts⟩ (g_X3_digit l D cI cL cZ cC tx t0 len lt (xDp lt len p0 + 1) (by first | assumption | decide +kernel) (by omega)) (cwV 1 hts gX3_takeLine_X3_digit rfl rfl rfl (by decide +kernel) ⟨Nat.le_of_ble_eq_true rfl, Nat.le_of_ble_eq_true rfl⟩) ⟨xPc_bl, va_recv hK hPc (ci := 3) (q0 := 0) rfl rfl, xPc_use hPc hK⟩ rfl rfl hl.1 rfl (lv_room (Nat.le_of_ble_eq_true rfl)) dX3_takeLine_54 ⟨Nat.le_of_ble_eq_true rfl, Nat.le_of_ble_eq_true rfl⟩)) (fun r_5 er_5 => ?_)
    obtain rfl : (xDg lt len (xDp lt len p0 + 1) : Int32) = r_5 := Eq.symm er_5
    refine va_put (D := D) (ci := 0) (v := .int (xDg lt len (xDp lt len p0 + 1))) (ty := .int) (C := RX0) (T := TX0) (N := 4) hx hb hts hwX0 tyX0 tyX0_ok nmX0 hown hK hP hD hS 5 rfl rfl 2 (by decide) (hts (.fieldLink RX3 93 "WaitOrWalkOn$Line" "never" "I") (by decide +kernel)) (fun _ h9 => h9) rfl (by decide +kernel) rfl rfl (Nat.le_of_ble_eq_true rfl) dX3_takeLine_57 (fun H locs hP hD hS => ?_)
    have hP : va_P D vwCl [(tx, .inr (3, [.ref t0, .int (nI len)])), (t0, .inl (cI, 96, .inl lt)), (rd, .inr (2, [.int (nI st), .int ho, .int pa, .int si, .int li, .int (nI 0), .ref r0, .ref r1])), (r0, .inl (cI, 7, .inl lg)), (r1, .inl (cL, 3, .inr (.inr (.inr (.inr (xL3 (la 0) (la 1) (la 2))))))), (la 0, .inr (0, [.int (xKd lt len (p0 + 1)), .int (xDg lt len (xDp lt len p0)), .int (xDg lt len (xDp lt len p0 + 1)), .ref (lk 0)])), (lk 0, .inl (cI, 12, .inl (ch 0))), (la 1, .inr (0, [.int (ki 1), .int (ru 1), .int (ne 1), .ref (lk 1)])), (lk 1, .inl (cI, 12, .inl (ch 1))), (la 2, .inr (0, [.int (ki 2), .int (ru 2), .int (ne 2), .ref (lk 2)])), (lk 2, .inl (cI, 12, .inl (ch 2)))] H := hP
    have hD : va_D A [(tx, .inr (3, [.ref t0, .int (nI len)])), (t0, .inl (cI, 96, .inl lt)), (rd, .inr (2, [.int (nI st), .int ho, .int pa, .int si, .int li, .int (nI 0), .ref r0, .ref r1])), (r0, .inl (cI, 7, .inl lg)), (r1, .inl (cL, 3, .inr (.inr (.inr (.inr (xL3 (la 0) (la 1) (la 2))))))), (la 0, .inr (0, [.int (xKd lt len (p0 + 1)), .int (xDg lt len (xDp lt len p0)), .int (xDg lt len (xDp lt len p0 + 1)), .ref (lk 0)])), (lk 0, .inl (cI, 12, .inl (ch 0))), (la 1, .inr (0, [.int (ki 1), .int (ru 1), .int (ne 1), .ref (lk 1)])), (lk 1, .inl (cI, 12, .inl (ch 1))), (la 2, .inr (0, [.int (ki 2), .int (ru 2), .int (ne 2), .ref (lk 2)])), (lk 2, .inl (cI, 12, .inl (ch 2)))] := hD
    refine lv_aload_n hx hb dX3_takeLine_60 rfl (lv_at hl 2 rfl) ?_
    refine lv_iload_n hx hb dX3_takeLine_61 rfl (lv_at hl 4 rfl) ?_
    have hPc := hP.sub (ws' := [(tx, .inr (3, [.ref t0, .int (nI len)])), (t0, .inl (cI, 96, .inl lt))]) [0, 1] rfl
    refine vp_callSi (va_Run.run (va_runV (As := [.int (nI p0)]) (rest := []) ⟨hx, hb, hml, hown, hts⟩ (g_X3_digitsEnd l D cI cL cZ cC tx t0 len lt p0 (by first | assumption | decide +kernel) (by omega)) (cwV 1 hts gX3_takeLine_X3_digitsEnd rfl rfl rfl (by decide +kernel) ⟨Nat.le_of_ble_eq_true rfl, Nat.le_of_ble_eq_true rfl⟩) ⟨xPc_bl, va_recv hK hPc (ci := 3) (q0 := 0) rfl rfl, xPc_use hPc hK⟩ rfl rfl hl.1 rfl (lv_room (Nat.le_of_ble_eq_true rfl)) dX3_takeLine_62 ⟨Nat.le_of_ble_eq_true rfl, Nat.le_of_ble_eq_true rfl⟩)) (fun r_6 er_6 => ?_)
    obtain rfl : (nI (xDe lt len p0) : Int32) = r_6 := Eq.symm er_6
    refine lv_iload hx hb dX3_takeLine_65 (lv_at hl 0 rfl) ?_
    refine lv_isub hx hb dX3_takeLine_67 ?_
    refine lv_iconst (v := 2) hx hb dX3_takeLine_68 (by decide) ?_
    refine lv_isub hx hb dX3_takeLine_69 ?_
    refine lv_istore (lv' := [(5, .int (((nI (xDe lt len p0)) - (nI (xDp lt len p0))) - 2)), (4, .int (nI (xDp lt len p0))), (3, .ref (la 0)), (0, .ref tx), (1, .ref rd), (2, .int (nI p0))]) hx hb dX3_takeLine_70 hl (by decide) rfl (fun ls hl => ?_)
    refine lv_iconst (v := 0) hx hb dX3_takeLine_72 (by decide) ?_
    refine lv_istore (lv' := [(6, .int 0), (5, .int (((nI (xDe lt len p0)) - (nI (xDp lt len p0))) - 2)), (4, .int (nI (xDp lt len p0))), (3, .ref (la 0)), (0, .ref tx), (1, .ref rd), (2, .int (nI p0))]) hx hb dX3_takeLine_73 hl (by decide) rfl (fun ls hl => ?_)
    refine xl_loopH (σ := Nat × (Nat → Int32)) (fun n q H locs ls => lv_has ls 7 [(6, .int (nI q.1)), (5, .int (((nI (xDe lt len p0)) - (nI (xDp lt len p0))) - 2)), (4, .int (nI (xDp lt len p0))), (3, .ref (la 0)), (0, .ref tx), (1, .ref rd), (2, .int (nI p0))] ∧ va_P D vwCl [(tx, .inr (3, [.ref t0, .int (nI len)])), (t0, .inl (cI, 96, .inl lt)), (rd, .inr (2, [.int (nI st), .int ho, .int pa, .int si, .int li, .int (nI 0), .ref r0, .ref r1])), (r0, .inl (cI, 7, .inl lg)), (r1, .inl (cL, 3, .inr (.inr (.inr (.inr (xL3 (la 0) (la 1) (la 2))))))), (la 0, .inr (0, [.int (xKd lt len (p0 + 1)), .int (xDg lt len (xDp lt len p0)), .int (xDg lt len (xDp lt len p0 + 1)), .ref (lk 0)])), (lk 0, .inl (cI, 12, .inl q.2)), (la 1, .inr (0, [.int (ki 1), .int (ru 1), .int (ne 1), .ref (lk 1)])), (lk 1, .inl (cI, 12, .inl (ch 1))), (la 2, .inr (0, [.int (ki 2), .int (ru 2), .int (ne 2), .ref (lk 2)])), (lk 2, .inl (cI, 12, .inl (ch 2)))] H ∧ va_D A [(tx, .inr (3, [.ref t0, .int (nI len)])), (t0, .inl (cI, 96, .inl lt)), (rd, .inr (2, [.int (nI st), .int ho, .int pa, .int si, .int li, .int (nI 0), .ref r0, .ref r1])), (r0, .inl (cI, 7, .inl lg)), (r1, .inl (cL, 3, .inr (.inr (.inr (.inr (xL3 (la 0) (la 1) (la 2))))))), (la 0, .inr (0, [.int (xKd lt len (p0 + 1)), .int (xDg lt len (xDp lt len p0)), .int (xDg lt len (xDp lt len p0 + 1)), .ref (lk 0)])), (lk 0, .inl (cI, 12, .inl q.2)), (la 1, .inr (0, [.int (ki 1), .int (ru 1), .int (ne 1), .ref (lk 1)])), (lk 1, .inl (cI, 12, .inl (ch 1))), (la 2, .inr (0, [.int (ki 2), .int (ru 2), .int (ne 2), .ref (lk 2)])), (lk 2, .inl (cI, 12, .inl (ch 2)))] ∧ va_S A s.heap H locs ∧ (12 - q.1 < n) ∧ (q.1 ≤ 12) ∧ (q.2 = xCp (xCf lt len p0) (ch 0) q.1)) (13) (0, ch 0) ⟨lv_sub hl [0, 1, 2, 3, 4, 5, 6] rfl, hP.sub [0, 1, 2, 3, 4, 5, 6, 7, 8, 9, 10] rfl, hD.sub [0, 1, 2, 3, 4, 5, 6, 7, 8, 9, 10] (by decide) rfl, hS, by (try dsimp only); exact ⟨by omega, by omega, (xCp_0 _ _).symm⟩⟩ (fun q H lc ls h => absurd h.2.2.2.2.1 (Nat.not_lt_zero _)) ?_
    intro n_75 q_75 H locs ls ih_75 hI_75
    obtain ⟨hl, hP, hD, hS, hI_75⟩ := hI_75
    obtain ⟨t1, f1⟩ := q_75
    obtain ⟨h1, h2, h3⟩ := hI_75
    try dsimp only at hl hP hD h1 h2 h3
    refine lv_iload hx hb dX3_takeLine_75 (lv_at hl 0 rfl) ?_
    refine lv_bipush (v := 12) hx hb dX3_takeLine_77 (by decide) ?_
    refine lv_icmp_ge (tgt := 117) hx hb dX3_takeLine_79 (by decide) (fun c_7 => ?_) (fun c_7 => ?_)
    · have w12 : t1 = 12 := by have w := mt (nI_ltI (a := t1) (b := 12) (by omega) (by omega)).mpr (Int32.not_lt.mpr c_7); omega
      rw [w12] at h3
      rw [h3] at hP hD
      have hP : va_P D vwCl [(tx, .inr (3, [.ref t0, .int (nI len)])), (t0, .inl (cI, 96, .inl lt)), (rd, .inr (2, [.int (nI st), .int ho, .int pa, .int si, .int li, .int (nI 0), .ref r0, .ref r1])), (r0, .inl (cI, 7, .inl lg)), (r1, .inl (cL, 3, .inr (.inr (.inr (.inr (xL3 (la 0) (la 1) (la 2))))))), (la 0, .inr (0, [.int (xKd lt len (p0 + 1)), .int (xDg lt len (xDp lt len p0)), .int (xDg lt len (xDp lt len p0 + 1)), .ref (lk 0)])), (lk 0, .inl (cI, 12, .inl (xCp (xCf lt len p0) (ch 0) 12))), (la 1, .inr (0, [.int (ki 1), .int (ru 1), .int (ne 1), .ref (lk 1)])), (lk 1, .inl (cI, 12, .inl (ch 1))), (la 2, .inr (0, [.int (ki 2), .int (ru 2), .int (ne 2), .ref (lk 2)])), (lk 2, .inl (cI, 12, .inl (ch 2)))] H := hP
      have hD : va_D A [(tx, .inr (3, [.ref t0, .int (nI len)])), (t0, .inl (cI, 96, .inl lt)), (rd, .inr (2, [.int (nI st), .int ho, .int pa, .int si, .int li, .int (nI 0), .ref r0, .ref r1])), (r0, .inl (cI, 7, .inl lg)), (r1, .inl (cL, 3, .inr (.inr (.inr (.inr (xL3 (la 0) (la 1) (la 2))))))), (la 0, .inr (0, [.int (xKd lt len (p0 + 1)), .int (xDg lt len (xDp lt len p0)), .int (xDg lt len (xDp lt len p0 + 1)), .ref (lk 0)])), (lk 0, .inl (cI, 12, .inl (xCp (xCf lt len p0) (ch 0) 12))), (la 1, .inr (0, [.int (ki 1), .int (ru 1), .int (ne 1), .ref (lk 1)])), (lk 1, .inl (cI, 12, .inl (ch 1))), (la 2, .inr (0, [.int (ki 2), .int (ru 2), .int (ne 2), .ref (lk 2)])), (lk 2, .inl (cI, 12, .inl (ch 2)))] := hD
      refine lv_aload_n hx hb dX3_takeLine_117 rfl (lv_at hl 5 rfl) ?_
      refine lv_dup hx hb dX3_takeLine_118 rfl ?_
      refine va_get (D := D) (ci := 2) (v := .int (nI 0)) (C := RX2) (T := TX2) (N := 8) hx hb hts hwX2 hown hK hP 2 rfl rfl 5 (by decide) (hts (.fieldLink RX3 78 "WaitOrWalkOn$Road" "lineCount" "I") (by decide +kernel)) (fun _ h9 => h9) rfl dX3_takeLine_119 ?_
      refine lv_iconst (v := 1) hx hb dX3_takeLine_122 (by decide) ?_
      refine lv_iadd hx hb dX3_takeLine_123 ?_
      refine xv_int (y := nI (0 + 1)) (nI_1 0) ?_
      refine va_put (D := D) (ci := 2) (v := .int (nI (0 + 1))) (ty := .int) (C := RX2) (T := TX2) (N := 8) hx hb hts hwX2 tyX2 tyX2_ok nmX2 hown hK hP hD hS 2 rfl rfl 5 (by decide) (hts (.fieldLink RX3 78 "WaitOrWalkOn$Road" "lineCount" "I") (by decide +kernel)) (fun _ h9 => h9) rfl (by decide +kernel) rfl rfl (Nat.le_of_ble_eq_true rfl) dX3_takeLine_124 (fun H locs hP hD hS => ?_)
      have hP : va_P D vwCl [(tx, .inr (3, [.ref t0, .int (nI len)])), (t0, .inl (cI, 96, .inl lt)), (rd, .inr (2, [.int (nI st), .int ho, .int pa, .int si, .int li, .int (nI (0 + 1)), .ref r0, .ref r1])), (r0, .inl (cI, 7, .inl lg)), (r1, .inl (cL, 3, .inr (.inr (.inr (.inr (xL3 (la 0) (la 1) (la 2))))))), (la 0, .inr (0, [.int (xKd lt len (p0 + 1)), .int (xDg lt len (xDp lt len p0)), .int (xDg lt len (xDp lt len p0 + 1)), .ref (lk 0)])), (lk 0, .inl (cI, 12, .inl (xCp (xCf lt len p0) (ch 0) 12))), (la 1, .inr (0, [.int (ki 1), .int (ru 1), .int (ne 1), .ref (lk 1)])), (lk 1, .inl (cI, 12, .inl (ch 1))), (la 2, .inr (0, [.int (ki 2), .int (ru 2), .int (ne 2), .ref (lk 2)])), (lk 2, .inl (cI, 12, .inl (ch 2)))] H := hP
      have hD : va_D A [(tx, .inr (3, [.ref t0, .int (nI len)])), (t0, .inl (cI, 96, .inl lt)), (rd, .inr (2, [.int (nI st), .int ho, .int pa, .int si, .int li, .int (nI (0 + 1)), .ref r0, .ref r1])), (r0, .inl (cI, 7, .inl lg)), (r1, .inl (cL, 3, .inr (.inr (.inr (.inr (xL3 (la 0) (la 1) (la 2))))))), (la 0, .inr (0, [.int (xKd lt len (p0 + 1)), .int (xDg lt len (xDp lt len p0)), .int (xDg lt len (xDp lt len p0 + 1)), .ref (lk 0)])), (lk 0, .inl (cI, 12, .inl (xCp (xCf lt len p0) (ch 0) 12))), (la 1, .inr (0, [.int (ki 1), .int (ru 1), .int (ne 1), .ref (lk 1)])), (lk 1, .inl (cI, 12, .inl (ch 1))), (la 2, .inr (0, [.int (ki 2), .int (ru 2), .int (ne 2), .ref (lk 2)])), (lk 2, .inl (cI, 12, .inl (ch 2)))] := hD
      refine lv_aload_n hx hb dX3_takeLine_127 rfl (lv_at hl 3 rfl) ?_
      refine va_get (D := D) (ci := 0) (v := .int (xDg lt len (xDp lt len p0))) (C := RX0) (T := TX0) (N := 4) hx hb hts hwX0 hown hK hP 5 rfl rfl 1 (by decide) (hts (.fieldLink RX3 90 "WaitOrWalkOn$Line" "run" "I") (by decide +kernel)) (fun _ h9 => h9) rfl dX3_takeLine_128 ?_
      refine lv_if_le (tgt := 145) hx hb dX3_takeLine_131 (by decide) (fun c_8 => ?_) (fun c_8 => ?_)
      · refine lv_iconst (v := 0) hx hb dX3_takeLine_145 (by decide) ?_
        have hP9 := hP.sub (ws' := [(tx, .inr (3, [.ref t0, .int (nI len)])), (t0, .inl (cI, 96, .inl lt)), (rd, .inr (2, [.int (nI st), .int ho, .int pa, .int si, .int li, .int (nI (0 + 1)), .ref r0, .ref r1])), (r0, .inl (cI, 7, .inl lg)), (r1, .inl (cL, 3, .inr (.inr (.inr (.inr (xL3 (la 0) (la 1) (la 2))))))), (la 0, .inr (0, [.int (xKd lt len (p0 + 1)), .int (xDg lt len (xDp lt len p0)), .int (xDg lt len (xDp lt len p0 + 1)), .ref (lk 0)])), (lk 0, .inl (cI, 12, .inl (xCp (xCf lt len p0) (ch 0) 12))), (la 1, .inr (0, [.int (ki 1), .int (ru 1), .int (ne 1), .ref (lk 1)])), (lk 1, .inl (cI, 12, .inl (ch 1))), (la 2, .inr (0, [.int (ki 2), .int (ru 2), .int (ne 2), .ref (lk 2)])), (lk 2, .inl (cI, 12, .inl (ch 2)))]) [0, 1, 2, 3, 4, 5, 6, 7, 8, 9, 10] rfl
        have hD9 := hD.sub (ws' := [(tx, .inr (3, [.ref t0, .int (nI len)])), (t0, .inl (cI, 96, .inl lt)), (rd, .inr (2, [.int (nI st), .int ho, .int pa, .int si, .int li, .int (nI (0 + 1)), .ref r0, .ref r1])), (r0, .inl (cI, 7, .inl lg)), (r1, .inl (cL, 3, .inr (.inr (.inr (.inr (xL3 (la 0) (la 1) (la 2))))))), (la 0, .inr (0, [.int (xKd lt len (p0 + 1)), .int (xDg lt len (xDp lt len p0)), .int (xDg lt len (xDp lt len p0 + 1)), .ref (lk 0)])), (lk 0, .inl (cI, 12, .inl (xCp (xCf lt len p0) (ch 0) 12))), (la 1, .inr (0, [.int (ki 1), .int (ru 1), .int (ne 1), .ref (lk 1)])), (lk 1, .inl (cI, 12, .inl (ch 1))), (la 2, .inr (0, [.int (ki 2), .int (ru 2), .int (ne 2), .ref (lk 2)])), (lk 2, .inl (cI, 12, .inl (ch 2)))]) [0, 1, 2, 3, 4, 5, 6, 7, 8, 9, 10] (by decide) rfl
        have hE9 : ([(tx, .inr (3, [.ref t0, .int (nI len)])), (t0, .inl (cI, 96, .inl lt)), (rd, .inr (2, [.int (nI st), .int ho, .int pa, .int si, .int li, .int (nI (0 + 1)), .ref r0, .ref r1])), (r0, .inl (cI, 7, .inl lg)), (r1, .inl (cL, 3, .inr (.inr (.inr (.inr (xL3 (la 0) (la 1) (la 2))))))), (la 0, .inr (0, [.int (xKd lt len (p0 + 1)), .int (xDg lt len (xDp lt len p0)), .int (xDg lt len (xDp lt len p0 + 1)), .ref (lk 0)])), (lk 0, .inl (cI, 12, .inl (xCp (xCf lt len p0) (ch 0) 12))), (la 1, .inr (0, [.int (ki 1), .int (ru 1), .int (ne 1), .ref (lk 1)])), (lk 1, .inl (cI, 12, .inl (ch 1))), (la 2, .inr (0, [.int (ki 2), .int (ru 2), .int (ne 2), .ref (lk 2)])), (lk 2, .inl (cI, 12, .inl (ch 2)))] : va_W) = [(tx, .inr (3, [.ref t0, .int (nI len)])), (t0, .inl (cI, 96, .inl lt)), (rd, .inr (2, [.int (nI (((xTL lt len p0 (st, 0, ho, pa, si, li, lg, ki, ru, ne, ch)).1).1)), .int (((xTL lt len p0 (st, 0, ho, pa, si, li, lg, ki, ru, ne, ch)).1).2.2.1), .int (((xTL lt len p0 (st, 0, ho, pa, si, li, lg, ki, ru, ne, ch)).1).2.2.2.1), .int (((xTL lt len p0 (st, 0, ho, pa, si, li, lg, ki, ru, ne, ch)).1).2.2.2.2.1), .int (((xTL lt len p0 (st, 0, ho, pa, si, li, lg, ki, ru, ne, ch)).1).2.2.2.2.2.1), .int (nI (((xTL lt len p0 (st, 0, ho, pa, si, li, lg, ki, ru, ne, ch)).1).2.1)), .ref r0, .ref r1])), (r0, .inl (cI, 7, .inl (((xTL lt len p0 (st, 0, ho, pa, si, li, lg, ki, ru, ne, ch)).1).2.2.2.2.2.2.1))), (r1, .inl (cL, 3, .inr (.inr (.inr (.inr (xL3 (la 0) (la 1) (la 2))))))), (la 0, .inr (0, [.int ((((xTL lt len p0 (st, 0, ho, pa, si, li, lg, ki, ru, ne, ch)).1).2.2.2.2.2.2.2.1) 0), .int ((((xTL lt len p0 (st, 0, ho, pa, si, li, lg, ki, ru, ne, ch)).1).2.2.2.2.2.2.2.2.1) 0), .int ((((xTL lt len p0 (st, 0, ho, pa, si, li, lg, ki, ru, ne, ch)).1).2.2.2.2.2.2.2.2.2.1) 0), .ref (lk 0)])), (lk 0, .inl (cI, 12, .inl ((((xTL lt len p0 (st, 0, ho, pa, si, li, lg, ki, ru, ne, ch)).1).2.2.2.2.2.2.2.2.2.2) 0))), (la 1, .inr (0, [.int ((((xTL lt len p0 (st, 0, ho, pa, si, li, lg, ki, ru, ne, ch)).1).2.2.2.2.2.2.2.1) 1), .int ((((xTL lt len p0 (st, 0, ho, pa, si, li, lg, ki, ru, ne, ch)).1).2.2.2.2.2.2.2.2.1) 1), .int ((((xTL lt len p0 (st, 0, ho, pa, si, li, lg, ki, ru, ne, ch)).1).2.2.2.2.2.2.2.2.2.1) 1), .ref (lk 1)])), (lk 1, .inl (cI, 12, .inl ((((xTL lt len p0 (st, 0, ho, pa, si, li, lg, ki, ru, ne, ch)).1).2.2.2.2.2.2.2.2.2.2) 1))), (la 2, .inr (0, [.int ((((xTL lt len p0 (st, 0, ho, pa, si, li, lg, ki, ru, ne, ch)).1).2.2.2.2.2.2.2.1) 2), .int ((((xTL lt len p0 (st, 0, ho, pa, si, li, lg, ki, ru, ne, ch)).1).2.2.2.2.2.2.2.2.1) 2), .int ((((xTL lt len p0 (st, 0, ho, pa, si, li, lg, ki, ru, ne, ch)).1).2.2.2.2.2.2.2.2.2.1) 2), .ref (lk 2)])), (lk 2, .inl (cI, 12, .inl ((((xTL lt len p0 (st, 0, ho, pa, si, li, lg, ki, ru, ne, ch)).1).2.2.2.2.2.2.2.2.2.2) 2)))] := rfl
        exact W.zret (v := 0) (ty := .boolean) hx hb hr (by decide +kernel) (fun t ht hW => ⟨⟨_, (), rfl, (by show _ = (if 0 < xDg lt len (xDp lt len p0) then (if 0 < xSm (xCp (xCf lt len p0) (ch 0) 12) 12 + xDg lt len (xDp lt len p0 + 1) then 1 else 0) else 0); rw [if_neg (Int32.not_lt.mpr c_8)]), by rw [ht]; exact hE9 ▸ hP9, hE9 ▸ hD9⟩, hS.F ht⟩) hS.2.2 dX3_takeLine_146
      · refine lv_aload_n hx hb dX3_takeLine_134 rfl (lv_at hl 3 rfl) ?_
        have hPc := hP.sub (ws' := [((la 0), .inr (0, [.int (xKd lt len (p0 + 1)), .int (xDg lt len (xDp lt len p0)), .int (xDg lt len (xDp lt len p0 + 1)), .ref (lk 0)])), ((lk 0), .inl (cI, 12, .inl (xCp (xCf lt len p0) (ch 0) 12)))]) [5, 6] rfl
        refine vp_callSi (va_Run.run (va_runV (As := []) (rest := []) ⟨hx, hb, hml, hown, hts⟩ (g_X0_total l D cI cL cZ cC (la 0) (lk 0) (xKd lt len (p0 + 1)) (xDg lt len (xDp lt len p0)) (xDg lt len (xDp lt len p0 + 1)) (xCp (xCf lt len p0) (ch 0) 12) ) (cwV 0 hts gX3_takeLine_X0_total rfl rfl rfl (by decide +kernel) ⟨Nat.le_of_ble_eq_true rfl, Nat.le_of_ble_eq_true rfl⟩) ⟨xPc_bl, va_recv hK hPc (ci := 0) (q0 := 0) rfl rfl, xPc_use hPc hK⟩ rfl rfl hl.1 rfl (lv_room (Nat.le_of_ble_eq_true rfl)) dX3_takeLine_135 ⟨Nat.le_of_ble_eq_true rfl, Nat.le_of_ble_eq_true rfl⟩)) (fun r_9 er_9 => ?_)
        obtain rfl : (xSm (xCp (xCf lt len p0) (ch 0) 12) 12 + (xDg lt len (xDp lt len p0 + 1)) : Int32) = r_9 := Eq.symm er_9
        refine lv_if_le (tgt := 145) hx hb dX3_takeLine_138 (by decide) (fun c_10 => ?_) (fun c_10 => ?_)
        · refine lv_iconst (v := 0) hx hb dX3_takeLine_145 (by decide) ?_
          have hP9 := hP.sub (ws' := [(tx, .inr (3, [.ref t0, .int (nI len)])), (t0, .inl (cI, 96, .inl lt)), (rd, .inr (2, [.int (nI st), .int ho, .int pa, .int si, .int li, .int (nI (0 + 1)), .ref r0, .ref r1])), (r0, .inl (cI, 7, .inl lg)), (r1, .inl (cL, 3, .inr (.inr (.inr (.inr (xL3 (la 0) (la 1) (la 2))))))), (la 0, .inr (0, [.int (xKd lt len (p0 + 1)), .int (xDg lt len (xDp lt len p0)), .int (xDg lt len (xDp lt len p0 + 1)), .ref (lk 0)])), (lk 0, .inl (cI, 12, .inl (xCp (xCf lt len p0) (ch 0) 12))), (la 1, .inr (0, [.int (ki 1), .int (ru 1), .int (ne 1), .ref (lk 1)])), (lk 1, .inl (cI, 12, .inl (ch 1))), (la 2, .inr (0, [.int (ki 2), .int (ru 2), .int (ne 2), .ref (lk 2)])), (lk 2, .inl (cI, 12, .inl (ch 2)))]) [0, 1, 2, 3, 4, 5, 6, 7, 8, 9, 10] rfl
          have hD9 := hD.sub (ws' := [(tx, .inr (3, [.ref t0, .int (nI len)])), (t0, .inl (cI, 96, .inl lt)), (rd, .inr (2, [.int (nI st), .int ho, .int pa, .int si, .int li, .int (nI (0 + 1)), .ref r0, .ref r1])), (r0, .inl (cI, 7, .inl lg)), (r1, .inl (cL, 3, .inr (.inr (.inr (.inr (xL3 (la 0) (la 1) (la 2))))))), (la 0, .inr (0, [.int (xKd lt len (p0 + 1)), .int (xDg lt len (xDp lt len p0)), .int (xDg lt len (xDp lt len p0 + 1)), .ref (lk 0)])), (lk 0, .inl (cI, 12, .inl (xCp (xCf lt len p0) (ch 0) 12))), (la 1, .inr (0, [.int (ki 1), .int (ru 1), .int (ne 1), .ref (lk 1)])), (lk 1, .inl (cI, 12, .inl (ch 1))), (la 2, .inr (0, [.int (ki 2), .int (ru 2), .int (ne 2), .ref (lk 2)])), (lk 2, .inl (cI, 12, .inl (ch 2)))]) [0, 1, 2, 3, 4, 5, 6, 7, 8, 9, 10] (by decide) rfl
          have hE9 : ([(tx, .inr (3, [.ref t0, .int (nI len)])), (t0, .inl (cI, 96, .inl lt)), (rd, .inr (2, [.int (nI st), .int ho, .int pa, .int si, .int li, .int (nI (0 + 1)), .ref r0, .ref r1])), (r0, .inl (cI, 7, .inl lg)), (r1, .inl (cL, 3, .inr (.inr (.inr (.inr (xL3 (la 0) (la 1) (la 2))))))), (la 0, .inr (0, [.int (xKd lt len (p0 + 1)), .int (xDg lt len (xDp lt len p0)), .int (xDg lt len (xDp lt len p0 + 1)), .ref (lk 0)])), (lk 0, .inl (cI, 12, .inl (xCp (xCf lt len p0) (ch 0) 12))), (la 1, .inr (0, [.int (ki 1), .int (ru 1), .int (ne 1), .ref (lk 1)])), (lk 1, .inl (cI, 12, .inl (ch 1))), (la 2, .inr (0, [.int (ki 2), .int (ru 2), .int (ne 2), .ref (lk 2)])), (lk 2, .inl (cI, 12, .inl (ch 2)))] : va_W) = [(tx, .inr (3, [.ref t0, .int (nI len)])), (t0, .inl (cI, 96, .inl lt)), (rd, .inr (2, [.int (nI (((xTL lt len p0 (st, 0, ho, pa, si, li, lg, ki, ru, ne, ch)).1).1)), .int (((xTL lt len p0 (st, 0, ho, pa, si, li, lg, ki, ru, ne, ch)).1).2.2.1), .int (((xTL lt len p0 (st, 0, ho, pa, si, li, lg, ki, ru, ne, ch)).1).2.2.2.1), .int (((xTL lt len p0 (st, 0, ho, pa, si, li, lg, ki, ru, ne, ch)).1).2.2.2.2.1), .int (((xTL lt len p0 (st, 0, ho, pa, si, li, lg, ki, ru, ne, ch)).1).2.2.2.2.2.1), .int (nI (((xTL lt len p0 (st, 0, ho, pa, si, li, lg, ki, ru, ne, ch)).1).2.1)), .ref r0, .ref r1])), (r0, .inl (cI, 7, .inl (((xTL lt len p0 (st, 0, ho, pa, si, li, lg, ki, ru, ne, ch)).1).2.2.2.2.2.2.1))), (r1, .inl (cL, 3, .inr (.inr (.inr (.inr (xL3 (la 0) (la 1) (la 2))))))), (la 0, .inr (0, [.int ((((xTL lt len p0 (st, 0, ho, pa, si, li, lg, ki, ru, ne, ch)).1).2.2.2.2.2.2.2.1) 0), .int ((((xTL lt len p0 (st, 0, ho, pa, si, li, lg, ki, ru, ne, ch)).1).2.2.2.2.2.2.2.2.1) 0), .int ((((xTL lt len p0 (st, 0, ho, pa, si, li, lg, ki, ru, ne, ch)).1).2.2.2.2.2.2.2.2.2.1) 0), .ref (lk 0)])), (lk 0, .inl (cI, 12, .inl ((((xTL lt len p0 (st, 0, ho, pa, si, li, lg, ki, ru, ne, ch)).1).2.2.2.2.2.2.2.2.2.2) 0))), (la 1, .inr (0, [.int ((((xTL lt len p0 (st, 0, ho, pa, si, li, lg, ki, ru, ne, ch)).1).2.2.2.2.2.2.2.1) 1), .int ((((xTL lt len p0 (st, 0, ho, pa, si, li, lg, ki, ru, ne, ch)).1).2.2.2.2.2.2.2.2.1) 1), .int ((((xTL lt len p0 (st, 0, ho, pa, si, li, lg, ki, ru, ne, ch)).1).2.2.2.2.2.2.2.2.2.1) 1), .ref (lk 1)])), (lk 1, .inl (cI, 12, .inl ((((xTL lt len p0 (st, 0, ho, pa, si, li, lg, ki, ru, ne, ch)).1).2.2.2.2.2.2.2.2.2.2) 1))), (la 2, .inr (0, [.int ((((xTL lt len p0 (st, 0, ho, pa, si, li, lg, ki, ru, ne, ch)).1).2.2.2.2.2.2.2.1) 2), .int ((((xTL lt len p0 (st, 0, ho, pa, si, li, lg, ki, ru, ne, ch)).1).2.2.2.2.2.2.2.2.1) 2), .int ((((xTL lt len p0 (st, 0, ho, pa, si, li, lg, ki, ru, ne, ch)).1).2.2.2.2.2.2.2.2.2.1) 2), .ref (lk 2)])), (lk 2, .inl (cI, 12, .inl ((((xTL lt len p0 (st, 0, ho, pa, si, li, lg, ki, ru, ne, ch)).1).2.2.2.2.2.2.2.2.2.2) 2)))] := rfl
          exact W.zret (v := 0) (ty := .boolean) hx hb hr (by decide +kernel) (fun t ht hW => ⟨⟨_, (), rfl, (by show _ = (if 0 < xDg lt len (xDp lt len p0) then (if 0 < xSm (xCp (xCf lt len p0) (ch 0) 12) 12 + xDg lt len (xDp lt len p0 + 1) then 1 else 0) else 0); rw [if_pos (Int32.not_le.mp c_8), if_neg (Int32.not_lt.mpr c_10)]), by rw [ht]; exact hE9 ▸ hP9, hE9 ▸ hD9⟩, hS.F ht⟩) hS.2.2 dX3_takeLine_146
        · refine lv_iconst (v := 1) hx hb dX3_takeLine_141 (by decide) ?_
          refine lv_goto (tgt := 146) hx hb dX3_takeLine_142 (by decide) ?_
          have hP9 := hP.sub (ws' := [(tx, .inr (3, [.ref t0, .int (nI len)])), (t0, .inl (cI, 96, .inl lt)), (rd, .inr (2, [.int (nI st), .int ho, .int pa, .int si, .int li, .int (nI (0 + 1)), .ref r0, .ref r1])), (r0, .inl (cI, 7, .inl lg)), (r1, .inl (cL, 3, .inr (.inr (.inr (.inr (xL3 (la 0) (la 1) (la 2))))))), (la 0, .inr (0, [.int (xKd lt len (p0 + 1)), .int (xDg lt len (xDp lt len p0)), .int (xDg lt len (xDp lt len p0 + 1)), .ref (lk 0)])), (lk 0, .inl (cI, 12, .inl (xCp (xCf lt len p0) (ch 0) 12))), (la 1, .inr (0, [.int (ki 1), .int (ru 1), .int (ne 1), .ref (lk 1)])), (lk 1, .inl (cI, 12, .inl (ch 1))), (la 2, .inr (0, [.int (ki 2), .int (ru 2), .int (ne 2), .ref (lk 2)])), (lk 2, .inl (cI, 12, .inl (ch 2)))]) [0, 1, 2, 3, 4, 5, 6, 7, 8, 9, 10] rfl
          have hD9 := hD.sub (ws' := [(tx, .inr (3, [.ref t0, .int (nI len)])), (t0, .inl (cI, 96, .inl lt)), (rd, .inr (2, [.int (nI st), .int ho, .int pa, .int si, .int li, .int (nI (0 + 1)), .ref r0, .ref r1])), (r0, .inl (cI, 7, .inl lg)), (r1, .inl (cL, 3, .inr (.inr (.inr (.inr (xL3 (la 0) (la 1) (la 2))))))), (la 0, .inr (0, [.int (xKd lt len (p0 + 1)), .int (xDg lt len (xDp lt len p0)), .int (xDg lt len (xDp lt len p0 + 1)), .ref (lk 0)])), (lk 0, .inl (cI, 12, .inl (xCp (xCf lt len p0) (ch 0) 12))), (la 1, .inr (0, [.int (ki 1), .int (ru 1), .int (ne 1), .ref (lk 1)])), (lk 1, .inl (cI, 12, .inl (ch 1))), (la 2, .inr (0, [.int (ki 2), .int (ru 2), .int (ne 2), .ref (lk 2)])), (lk 2, .inl (cI, 12, .inl (ch 2)))]) [0, 1, 2, 3, 4, 5, 6, 7, 8, 9, 10] (by decide) rfl
          have hE9 : ([(tx, .inr (3, [.ref t0, .int (nI len)])), (t0, .inl (cI, 96, .inl lt)), (rd, .inr (2, [.int (nI st), .int ho, .int pa, .int si, .int li, .int (nI (0 + 1)), .ref r0, .ref r1])), (r0, .inl (cI, 7, .inl lg)), (r1, .inl (cL, 3, .inr (.inr (.inr (.inr (xL3 (la 0) (la 1) (la 2))))))), (la 0, .inr (0, [.int (xKd lt len (p0 + 1)), .int (xDg lt len (xDp lt len p0)), .int (xDg lt len (xDp lt len p0 + 1)), .ref (lk 0)])), (lk 0, .inl (cI, 12, .inl (xCp (xCf lt len p0) (ch 0) 12))), (la 1, .inr (0, [.int (ki 1), .int (ru 1), .int (ne 1), .ref (lk 1)])), (lk 1, .inl (cI, 12, .inl (ch 1))), (la 2, .inr (0, [.int (ki 2), .int (ru 2), .int (ne 2), .ref (lk 2)])), (lk 2, .inl (cI, 12, .inl (ch 2)))] : va_W) = [(tx, .inr (3, [.ref t0, .int (nI len)])), (t0, .inl (cI, 96, .inl lt)), (rd, .inr (2, [.int (nI (((xTL lt len p0 (st, 0, ho, pa, si, li, lg, ki, ru, ne, ch)).1).1)), .int (((xTL lt len p0 (st, 0, ho, pa, si, li, lg, ki, ru, ne, ch)).1).2.2.1), .int (((xTL lt len p0 (st, 0, ho, pa, si, li, lg, ki, ru, ne, ch)).1).2.2.2.1), .int (((xTL lt len p0 (st, 0, ho, pa, si, li, lg, ki, ru, ne, ch)).1).2.2.2.2.1), .int (((xTL lt len p0 (st, 0, ho, pa, si, li, lg, ki, ru, ne, ch)).1).2.2.2.2.2.1), .int (nI (((xTL lt len p0 (st, 0, ho, pa, si, li, lg, ki, ru, ne, ch)).1).2.1)), .ref r0, .ref r1])), (r0, .inl (cI, 7, .inl (((xTL lt len p0 (st, 0, ho, pa, si, li, lg, ki, ru, ne, ch)).1).2.2.2.2.2.2.1))), (r1, .inl (cL, 3, .inr (.inr (.inr (.inr (xL3 (la 0) (la 1) (la 2))))))), (la 0, .inr (0, [.int ((((xTL lt len p0 (st, 0, ho, pa, si, li, lg, ki, ru, ne, ch)).1).2.2.2.2.2.2.2.1) 0), .int ((((xTL lt len p0 (st, 0, ho, pa, si, li, lg, ki, ru, ne, ch)).1).2.2.2.2.2.2.2.2.1) 0), .int ((((xTL lt len p0 (st, 0, ho, pa, si, li, lg, ki, ru, ne, ch)).1).2.2.2.2.2.2.2.2.2.1) 0), .ref (lk 0)])), (lk 0, .inl (cI, 12, .inl ((((xTL lt len p0 (st, 0, ho, pa, si, li, lg, ki, ru, ne, ch)).1).2.2.2.2.2.2.2.2.2.2) 0))), (la 1, .inr (0, [.int ((((xTL lt len p0 (st, 0, ho, pa, si, li, lg, ki, ru, ne, ch)).1).2.2.2.2.2.2.2.1) 1), .int ((((xTL lt len p0 (st, 0, ho, pa, si, li, lg, ki, ru, ne, ch)).1).2.2.2.2.2.2.2.2.1) 1), .int ((((xTL lt len p0 (st, 0, ho, pa, si, li, lg, ki, ru, ne, ch)).1).2.2.2.2.2.2.2.2.2.1) 1), .ref (lk 1)])), (lk 1, .inl (cI, 12, .inl ((((xTL lt len p0 (st, 0, ho, pa, si, li, lg, ki, ru, ne, ch)).1).2.2.2.2.2.2.2.2.2.2) 1))), (la 2, .inr (0, [.int ((((xTL lt len p0 (st, 0, ho, pa, si, li, lg, ki, ru, ne, ch)).1).2.2.2.2.2.2.2.1) 2), .int ((((xTL lt len p0 (st, 0, ho, pa, si, li, lg, ki, ru, ne, ch)).1).2.2.2.2.2.2.2.2.1) 2), .int ((((xTL lt len p0 (st, 0, ho, pa, si, li, lg, ki, ru, ne, ch)).1).2.2.2.2.2.2.2.2.2.1) 2), .ref (lk 2)])), (lk 2, .inl (cI, 12, .inl ((((xTL lt len p0 (st, 0, ho, pa, si, li, lg, ki, ru, ne, ch)).1).2.2.2.2.2.2.2.2.2.2) 2)))] := rfl
          exact W.zret (v := 1) (ty := .boolean) hx hb hr (by decide +kernel) (fun t ht hW => ⟨⟨_, (), rfl, (by show _ = (if 0 < xDg lt len (xDp lt len p0) then (if 0 < xSm (xCp (xCf lt len p0) (ch 0) 12) 12 + xDg lt len (xDp lt len p0 + 1) then 1 else 0) else 0); rw [if_pos (Int32.not_le.mp c_8), if_pos (Int32.not_le.mp c_10)]), by rw [ht]; exact hE9 ▸ hP9, hE9 ▸ hD9⟩, hS.F ht⟩) hS.2.2 dX3_takeLine_146
    · refine lv_aload_n hx hb dX3_takeLine_82 rfl (lv_at hl 3 rfl) ?_
      refine va_get (D := D) (ci := 0) (v := .ref (lk 0)) (C := RX0) (T := TX0) (N := 4) hx hb hts hwX0 hown hK hP 5 rfl rfl 3 (by decide) (hts (.fieldLink RX3 96 "WaitOrWalkOn$Line" "chances" "[I") (by decide +kernel)) (fun _ h9 => h9) rfl dX3_takeLine_83 ?_
      refine lv_iload hx hb dX3_takeLine_86 (lv_at hl 0 rfl) ?_
      refine xl_cut (σ := Unit) 110 (fun _ => [.int (xCf lt len p0 t1), .int (nI t1), .ref (lk 0)]) (fun _ ls => lv_has ls 7 [(6, .int (nI t1)), (5, .int (((nI (xDe lt len p0)) - (nI (xDp lt len p0))) - 2)), (4, .int (nI (xDp lt len p0))), (3, .ref (la 0)), (0, .ref tx), (1, .ref rd), (2, .int (nI p0))]) ?_ ?_
      · intro _ ls hl
        refine va_iast (D := D) hx hb hK hP hD hS 6 0 rfl rfl (vp_in_nI (by have w := (nI_ltI (a := t1) (b := 12) (by omega) (by omega)).mp (Int32.not_le.mp c_7); omega) (by decide)) dX3_takeLine_110 (fun H locs hP hD hS => ?_)
        rw [nI_clamp (by omega)] at hP hD
        have hP : va_P D vwCl [(tx, .inr (3, [.ref t0, .int (nI len)])), (t0, .inl (cI, 96, .inl lt)), (rd, .inr (2, [.int (nI st), .int ho, .int pa, .int si, .int li, .int (nI 0), .ref r0, .ref r1])), (r0, .inl (cI, 7, .inl lg)), (r1, .inl (cL, 3, .inr (.inr (.inr (.inr (xL3 (la 0) (la 1) (la 2))))))), (la 0, .inr (0, [.int (xKd lt len (p0 + 1)), .int (xDg lt len (xDp lt len p0)), .int (xDg lt len (xDp lt len p0 + 1)), .ref (lk 0)])), (lk 0, .inl (cI, 12, .inl (upd f1 t1 (xCf lt len p0 t1)))), (la 1, .inr (0, [.int (ki 1), .int (ru 1), .int (ne 1), .ref (lk 1)])), (lk 1, .inl (cI, 12, .inl (ch 1))), (la 2, .inr (0, [.int (ki 2), .int (ru 2), .int (ne 2), .ref (lk 2)])), (lk 2, .inl (cI, 12, .inl (ch 2)))] H := hP
        have hD : va_D A [(tx, .inr (3, [.ref t0, .int (nI len)])), (t0, .inl (cI, 96, .inl lt)), (rd, .inr (2, [.int (nI st), .int ho, .int pa, .int si, .int li, .int (nI 0), .ref r0, .ref r1])), (r0, .inl (cI, 7, .inl lg)), (r1, .inl (cL, 3, .inr (.inr (.inr (.inr (xL3 (la 0) (la 1) (la 2))))))), (la 0, .inr (0, [.int (xKd lt len (p0 + 1)), .int (xDg lt len (xDp lt len p0)), .int (xDg lt len (xDp lt len p0 + 1)), .ref (lk 0)])), (lk 0, .inl (cI, 12, .inl (upd f1 t1 (xCf lt len p0 t1)))), (la 1, .inr (0, [.int (ki 1), .int (ru 1), .int (ne 1), .ref (lk 1)])), (lk 1, .inl (cI, 12, .inl (ch 1))), (la 2, .inr (0, [.int (ki 2), .int (ru 2), .int (ne 2), .ref (lk 2)])), (lk 2, .inl (cI, 12, .inl (ch 2)))] := hD
        refine lv_iinc (v := nI (t1 + 1)) (lv' := [(6, .int (nI (t1 + 1))), (5, .int (((nI (xDe lt len p0)) - (nI (xDp lt len p0))) - 2)), (4, .int (nI (xDp lt len p0))), (3, .ref (la 0)), (0, .ref tx), (1, .ref rd), (2, .int (nI p0))]) hx hb dX3_takeLine_111 hl (k := 0) rfl (nI_1 t1) (by decide) rfl (fun ls hl => ?_)
        refine lv_goto (tgt := 75) hx hb dX3_takeLine_114 (by decide) ?_
        have w := (nI_ltI (a := t1) (b := 12) (by omega) (by omega)).mp (Int32.not_le.mp c_7)
        exact ih_75 (t1 + 1, upd f1 t1 (xCf lt len p0 t1)) _ _ _ ⟨lv_sub hl [0, 1, 2, 3, 4, 5, 6] rfl, hP.sub [0, 1, 2, 3, 4, 5, 6, 7, 8, 9, 10] rfl, hD.sub [0, 1, 2, 3, 4, 5, 6, 7, 8, 9, 10] (by decide) rfl, hS, by (try dsimp only); exact ⟨by omega, by omega, by rw [h3]; exact xCp_s _ _ t1⟩⟩
      · intro K_110
        refine lv_iload hx hb dX3_takeLine_88 (lv_at hl 0 rfl) ?_
        refine lv_iload hx hb dX3_takeLine_90 (lv_at hl 1 rfl) ?_
        refine lv_icmp_ge (tgt := 109) hx hb dX3_takeLine_92 (by decide) (fun c_11 => ?_) (fun c_11 => ?_)
        · refine lv_iconst (v := 0) hx hb dX3_takeLine_109 (by decide) ?_
          refine xv_int (y := xCf lt len p0 t1) (xCf_f (Int32.not_lt.mpr c_11)) ?_
          exact K_110 () _ (lv_sub hl [0, 1, 2, 3, 4, 5, 6] rfl)
        · refine lv_aload_n hx hb dX3_takeLine_95 rfl (lv_at hl 4 rfl) ?_
          refine lv_iload hx hb dX3_takeLine_96 (lv_at hl 2 rfl) ?_
          refine lv_iconst (v := 2) hx hb dX3_takeLine_98 (by decide) ?_
          refine lv_iadd hx hb dX3_takeLine_99 ?_
          refine xv_int (y := nI (xDp lt len p0 + 2)) (nI_add _ 2) ?_
          refine lv_iload hx hb dX3_takeLine_100 (lv_at hl 0 rfl) ?_
          refine lv_iadd hx hb dX3_takeLine_102 ?_
          refine xv_int (y := nI (xDp lt len p0 + 2 + t1)) (nI_add _ _) ?_
          have hPc := hP.sub (ws' := [(tx, .inr (3, [.ref t0, .int (nI len)])), (t0, .inl (cI, 96, .inl lt))]) [0, 1] rfl
          refine vp_callSi (va_Run.run (va_runV (As := [.int (nI (xDp lt len p0 + 2 + t1))]) (rest := [.int (nI t1), .ref (lk 0)]) ⟨hx, hb, hml, hown, hts⟩ (g_X3_digit l D cI cL cZ cC tx t0 len lt (xDp lt len p0 + 2 + t1) (by first | assumption | decide +kernel) (by have w := (nI_ltI (a := t1) (b := 12) (by omega) (by omega)).mp (Int32.not_le.mp c_7); omega)) (cwV 1 hts gX3_takeLine_X3_digit rfl rfl rfl (by decide +kernel) ⟨Nat.le_of_ble_eq_true rfl, Nat.le_of_ble_eq_true rfl⟩) ⟨xPc_bl, va_recv hK hPc (ci := 3) (q0 := 0) rfl rfl, xPc_use hPc hK⟩ rfl rfl hl.1 rfl (lv_room (Nat.le_of_ble_eq_true rfl)) dX3_takeLine_103 ⟨Nat.le_of_ble_eq_true rfl, Nat.le_of_ble_eq_true rfl⟩)) (fun r_12 er_12 => ?_)
          obtain rfl : (xDg lt len (xDp lt len p0 + 2 + t1) : Int32) = r_12 := Eq.symm er_12
          refine lv_goto (tgt := 110) hx hb dX3_takeLine_106 (by decide) ?_
          refine xv_int (y := xCf lt len p0 t1) (xCf_t (Int32.not_le.mp c_11)) ?_
          exact K_110 () _ (lv_sub hl [0, 1, 2, 3, 4, 5, 6] rfl)
  · refine lv_aload_n hx hb dX3_takeLine_0 rfl (lv_at hl 1 rfl) ?_
    refine va_get (D := D) (ci := 2) (v := .int (nI 1)) (C := RX2) (T := TX2) (N := 8) hx hb hts hwX2 hown hK hP 2 rfl rfl 5 (by decide) (hts (.fieldLink RX3 78 "WaitOrWalkOn$Road" "lineCount" "I") (by decide +kernel)) (fun _ h9 => h9) rfl dX3_takeLine_1 ?_
    refine lv_iconst (v := 3) hx hb dX3_takeLine_4 (by decide) ?_
    refine lv_icmp_lt (tgt := 10) hx hb dX3_takeLine_5 (by decide) (fun c_13 => ?_) (fun c_13 => absurd (show nI 1 < 3 by decide +kernel) c_13)
    refine lv_aload_n hx hb dX3_takeLine_10 rfl (lv_at hl 1 rfl) ?_
    refine va_get (D := D) (ci := 2) (v := .ref r1) (C := RX2) (T := TX2) (N := 8) hx hb hts hwX2 hown hK hP 2 rfl rfl 7 (by decide) (hts (.fieldLink RX3 81 "WaitOrWalkOn$Road" "lines" "[LWaitOrWalkOn$Line;") (by decide +kernel)) (fun _ h9 => h9) rfl dX3_takeLine_11 ?_
    refine lv_aload_n hx hb dX3_takeLine_14 rfl (lv_at hl 1 rfl) ?_
    refine va_get (D := D) (ci := 2) (v := .int (nI 1)) (C := RX2) (T := TX2) (N := 8) hx hb hts hwX2 hown hK hP 2 rfl rfl 5 (by decide) (hts (.fieldLink RX3 78 "WaitOrWalkOn$Road" "lineCount" "I") (by decide +kernel)) (fun _ h9 => h9) rfl dX3_takeLine_15 ?_
    refine va_aldq (D := D) hx hb hK hP 4 1 rfl rfl (vp_in_nI (by decide) (by decide)) dX3_takeLine_18 ?_
    refine xv_ref (y := la 1) (xL3_at (by decide)) ?_
    refine lv_astore_n (lv' := [(3, .ref (la 1)), (0, .ref tx), (1, .ref rd), (2, .int (nI p0))]) hx hb dX3_takeLine_19 rfl hl (by decide) rfl (fun ls hl => ?_)
    refine lv_aload_n hx hb dX3_takeLine_20 rfl (lv_at hl 1 rfl) ?_
    refine lv_iload_n hx hb dX3_takeLine_21 rfl (lv_at hl 3 rfl) ?_
    have hPc := hP.sub (ws' := [(tx, .inr (3, [.ref t0, .int (nI len)])), (t0, .inl (cI, 96, .inl lt))]) [0, 1] rfl
    refine vp_callSi (va_Run.run (va_runV (As := [.int (nI p0)]) (rest := []) ⟨hx, hb, hml, hown, hts⟩ (g_X3_digitsPlace l D cI cL cZ cC tx t0 len lt p0 (by first | assumption | decide +kernel) (by omega)) (cwV 1 hts gX3_takeLine_X3_digitsPlace rfl rfl rfl (by decide +kernel) ⟨Nat.le_of_ble_eq_true rfl, Nat.le_of_ble_eq_true rfl⟩) ⟨xPc_bl, va_recv hK hPc (ci := 3) (q0 := 0) rfl rfl, xPc_use hPc hK⟩ rfl rfl hl.1 rfl (lv_room (Nat.le_of_ble_eq_true rfl)) dX3_takeLine_22 ⟨Nat.le_of_ble_eq_true rfl, Nat.le_of_ble_eq_true rfl⟩)) (fun r_14 er_14 => ?_)
    obtain rfl : (nI (xDp lt len p0) : Int32) = r_14 := Eq.symm er_14
    refine lv_istore (lv' := [(4, .int (nI (xDp lt len p0))), (3, .ref (la 1)), (0, .ref tx), (1, .ref rd), (2, .int (nI p0))]) hx hb dX3_takeLine_25 hl (by decide) rfl (fun ls hl => ?_)
    refine lv_aload_n hx hb dX3_takeLine_27 rfl (lv_at hl 1 rfl) ?_
    refine lv_aload_n hx hb dX3_takeLine_28 rfl (lv_at hl 2 rfl) ?_
    refine lv_iload_n hx hb dX3_takeLine_29 rfl (lv_at hl 4 rfl) ?_
    refine lv_iconst (v := 1) hx hb dX3_takeLine_30 (by decide) ?_
    refine lv_iadd hx hb dX3_takeLine_31 ?_
    refine xv_int (y := nI (p0 + 1)) (nI_1 p0) ?_
    have hPc := hP.sub (ws' := [(tx, .inr (3, [.ref t0, .int (nI len)])), (t0, .inl (cI, 96, .inl lt))]) [0, 1] rfl
    refine vp_callSi (va_Run.run (va_runV (As := [.int (nI (p0 + 1))]) (rest := [.ref (la 1)]) ⟨hx, hb, hml, hown, hts⟩ (g_X3_kindAt l D cI cL cZ cC ad av tx t0 len lt (p0 + 1) (by first | assumption | decide +kernel) (by omega)) (cwV 1 hts gX3_takeLine_X3_kindAt rfl rfl rfl (by decide +kernel) ⟨Nat.le_of_ble_eq_true rfl, Nat.le_of_ble_eq_true rfl⟩) ⟨sPc_bl, va_recv hK hPc (ci := 3) (q0 := 0) rfl rfl, sPc_use hPc hK (xKs_use hX9 hS (fun _ h => h.elim))⟩ rfl rfl hl.1 rfl (lv_room (Nat.le_of_ble_eq_true rfl)) dX3_takeLine_32 ⟨Nat.le_of_ble_eq_true rfl, Nat.le_of_ble_eq_true rfl⟩)) (fun r_15 er_15 => ?_)
    obtain rfl : (xKd lt len (p0 + 1) : Int32) = r_15 := Eq.symm er_15
    refine va_put (D := D) (ci := 0) (v := .int (xKd lt len (p0 + 1))) (ty := .int) (C := RX0) (T := TX0) (N := 4) hx hb hts hwX0 tyX0 tyX0_ok nmX0 hown hK hP hD hS 7 rfl rfl 0 (by decide) (hts (.fieldLink RX3 85 "WaitOrWalkOn$Line" "kind" "I") (by decide +kernel)) (fun _ h9 => h9) rfl (by decide +kernel) rfl rfl (Nat.le_of_ble_eq_true rfl) dX3_takeLine_35 (fun H locs hP hD hS => ?_)
    have hP : va_P D vwCl [(tx, .inr (3, [.ref t0, .int (nI len)])), (t0, .inl (cI, 96, .inl lt)), (rd, .inr (2, [.int (nI st), .int ho, .int pa, .int si, .int li, .int (nI 1), .ref r0, .ref r1])), (r0, .inl (cI, 7, .inl lg)), (r1, .inl (cL, 3, .inr (.inr (.inr (.inr (xL3 (la 0) (la 1) (la 2))))))), (la 0, .inr (0, [.int (ki 0), .int (ru 0), .int (ne 0), .ref (lk 0)])), (lk 0, .inl (cI, 12, .inl (ch 0))), (la 1, .inr (0, [.int (xKd lt len (p0 + 1)), .int (ru 1), .int (ne 1), .ref (lk 1)])), (lk 1, .inl (cI, 12, .inl (ch 1))), (la 2, .inr (0, [.int (ki 2), .int (ru 2), .int (ne 2), .ref (lk 2)])), (lk 2, .inl (cI, 12, .inl (ch 2)))] H := hP
    have hD : va_D A [(tx, .inr (3, [.ref t0, .int (nI len)])), (t0, .inl (cI, 96, .inl lt)), (rd, .inr (2, [.int (nI st), .int ho, .int pa, .int si, .int li, .int (nI 1), .ref r0, .ref r1])), (r0, .inl (cI, 7, .inl lg)), (r1, .inl (cL, 3, .inr (.inr (.inr (.inr (xL3 (la 0) (la 1) (la 2))))))), (la 0, .inr (0, [.int (ki 0), .int (ru 0), .int (ne 0), .ref (lk 0)])), (lk 0, .inl (cI, 12, .inl (ch 0))), (la 1, .inr (0, [.int (xKd lt len (p0 + 1)), .int (ru 1), .int (ne 1), .ref (lk 1)])), (lk 1, .inl (cI, 12, .inl (ch 1))), (la 2, .inr (0, [.int (ki 2), .int (ru 2), .int (ne 2), .ref (lk 2)])), (lk 2, .inl (cI, 12, .inl (ch 2)))] := hD
    refine lv_aload_n hx hb dX3_takeLine_38 rfl (lv_at hl 1 rfl) ?_
    refine lv_aload_n hx hb dX3_takeLine_39 rfl (lv_at hl 2 rfl) ?_
    refine lv_iload hx hb dX3_takeLine_40 (lv_at hl 0 rfl) ?_
    have hPc := hP.sub (ws' := [(tx, .inr (3, [.ref t0, .int (nI len)])), (t0, .inl (cI, 96, .inl lt))]) [0, 1] rfl
    refine vp_callSi (va_Run.run (va_runV (As := [.int (nI (xDp lt len p0))]) (rest := [.ref (la 1)]) ⟨hx, hb, hml, hown, hts⟩ (g_X3_digit l D cI cL cZ cC tx t0 len lt (xDp lt len p0) (by first | assumption | decide +kernel) (by omega)) (cwV 1 hts gX3_takeLine_X3_digit rfl rfl rfl (by decide +kernel) ⟨Nat.le_of_ble_eq_true rfl, Nat.le_of_ble_eq_true rfl⟩) ⟨xPc_bl, va_recv hK hPc (ci := 3) (q0 := 0) rfl rfl, xPc_use hPc hK⟩ rfl rfl hl.1 rfl (lv_room (Nat.le_of_ble_eq_true rfl)) dX3_takeLine_42 ⟨Nat.le_of_ble_eq_true rfl, Nat.le_of_ble_eq_true rfl⟩)) (fun r_16 er_16 => ?_)
    obtain rfl : (xDg lt len (xDp lt len p0) : Int32) = r_16 := Eq.symm er_16
    refine va_put (D := D) (ci := 0) (v := .int (xDg lt len (xDp lt len p0))) (ty := .int) (C := RX0) (T := TX0) (N := 4) hx hb hts hwX0 tyX0 tyX0_ok nmX0 hown hK hP hD hS 7 rfl rfl 1 (by decide) (hts (.fieldLink RX3 90 "WaitOrWalkOn$Line" "run" "I") (by decide +kernel)) (fun _ h9 => h9) rfl (by decide +kernel) rfl rfl (Nat.le_of_ble_eq_true rfl) dX3_takeLine_45 (fun H locs hP hD hS => ?_)
    have hP : va_P D vwCl [(tx, .inr (3, [.ref t0, .int (nI len)])), (t0, .inl (cI, 96, .inl lt)), (rd, .inr (2, [.int (nI st), .int ho, .int pa, .int si, .int li, .int (nI 1), .ref r0, .ref r1])), (r0, .inl (cI, 7, .inl lg)), (r1, .inl (cL, 3, .inr (.inr (.inr (.inr (xL3 (la 0) (la 1) (la 2))))))), (la 0, .inr (0, [.int (ki 0), .int (ru 0), .int (ne 0), .ref (lk 0)])), (lk 0, .inl (cI, 12, .inl (ch 0))), (la 1, .inr (0, [.int (xKd lt len (p0 + 1)), .int (xDg lt len (xDp lt len p0)), .int (ne 1), .ref (lk 1)])), (lk 1, .inl (cI, 12, .inl (ch 1))), (la 2, .inr (0, [.int (ki 2), .int (ru 2), .int (ne 2), .ref (lk 2)])), (lk 2, .inl (cI, 12, .inl (ch 2)))] H := hP
    have hD : va_D A [(tx, .inr (3, [.ref t0, .int (nI len)])), (t0, .inl (cI, 96, .inl lt)), (rd, .inr (2, [.int (nI st), .int ho, .int pa, .int si, .int li, .int (nI 1), .ref r0, .ref r1])), (r0, .inl (cI, 7, .inl lg)), (r1, .inl (cL, 3, .inr (.inr (.inr (.inr (xL3 (la 0) (la 1) (la 2))))))), (la 0, .inr (0, [.int (ki 0), .int (ru 0), .int (ne 0), .ref (lk 0)])), (lk 0, .inl (cI, 12, .inl (ch 0))), (la 1, .inr (0, [.int (xKd lt len (p0 + 1)), .int (xDg lt len (xDp lt len p0)), .int (ne 1), .ref (lk 1)])), (lk 1, .inl (cI, 12, .inl (ch 1))), (la 2, .inr (0, [.int (ki 2), .int (ru 2), .int (ne 2), .ref (lk 2)])), (lk 2, .inl (cI, 12, .inl (ch 2)))] := hD
    refine lv_aload_n hx hb dX3_takeLine_48 rfl (lv_at hl 1 rfl) ?_
    refine lv_aload_n hx hb dX3_takeLine_49 rfl (lv_at hl 2 rfl) ?_
    refine lv_iload hx hb dX3_takeLine_50 (lv_at hl 0 rfl) ?_
    refine lv_iconst (v := 1) hx hb dX3_takeLine_52 (by decide) ?_
    refine lv_iadd hx hb dX3_takeLine_53 ?_
    refine xv_int (y := nI (xDp lt len p0 + 1)) (nI_1 _) ?_
    have hPc := hP.sub (ws' := [(tx, .inr (3, [.ref t0, .int (nI len)])), (t0, .inl (cI, 96, .inl lt))]) [0, 1] rfl
    refine vp_callSi (va_Run.run (va_runV (As := [.int (nI (xDp lt len p0 + 1))]) (rest := [.ref (la 1)]) ⟨hx, hb, hml, hown, hts⟩ (g_X3_digit l D cI cL cZ cC tx t0 len lt (xDp lt len p0 + 1) (by first | assumption | decide +kernel) (by omega)) (cwV 1 hts gX3_takeLine_X3_digit rfl rfl rfl (by decide +kernel) ⟨Nat.le_of_ble_eq_true rfl, Nat.le_of_ble_eq_true rfl⟩) ⟨xPc_bl, va_recv hK hPc (ci := 3) (q0 := 0) rfl rfl, xPc_use hPc hK⟩ rfl rfl hl.1 rfl (lv_room (Nat.le_of_ble_eq_true rfl)) dX3_takeLine_54 ⟨Nat.le_of_ble_eq_true rfl, Nat.le_of_ble_eq_true rfl⟩)) (fun r_17 er_17 => ?_)
    obtain rfl : (xDg lt len (xDp lt len p0 + 1) : Int32) = r_17 := Eq.symm er_17
    refine va_put (D := D) (ci := 0) (v := .int (xDg lt len (xDp lt len p0 + 1))) (ty := .int) (C := RX0) (T := TX0) (N := 4) hx hb hts hwX0 tyX0 tyX0_ok nmX0 hown hK hP hD hS 7 rfl rfl 2 (by decide) (hts (.fieldLink RX3 93 "WaitOrWalkOn$Line" "never" "I") (by decide +kernel)) (fun _ h9 => h9) rfl (by decide +kernel) rfl rfl (Nat.le_of_ble_eq_true rfl) dX3_takeLine_57 (fun H locs hP hD hS => ?_)
    have hP : va_P D vwCl [(tx, .inr (3, [.ref t0, .int (nI len)])), (t0, .inl (cI, 96, .inl lt)), (rd, .inr (2, [.int (nI st), .int ho, .int pa, .int si, .int li, .int (nI 1), .ref r0, .ref r1])), (r0, .inl (cI, 7, .inl lg)), (r1, .inl (cL, 3, .inr (.inr (.inr (.inr (xL3 (la 0) (la 1) (la 2))))))), (la 0, .inr (0, [.int (ki 0), .int (ru 0), .int (ne 0), .ref (lk 0)])), (lk 0, .inl (cI, 12, .inl (ch 0))), (la 1, .inr (0, [.int (xKd lt len (p0 + 1)), .int (xDg lt len (xDp lt len p0)), .int (xDg lt len (xDp lt len p0 + 1)), .ref (lk 1)])), (lk 1, .inl (cI, 12, .inl (ch 1))), (la 2, .inr (0, [.int (ki 2), .int (ru 2), .int (ne 2), .ref (lk 2)])), (lk 2, .inl (cI, 12, .inl (ch 2)))] H := hP
    have hD : va_D A [(tx, .inr (3, [.ref t0, .int (nI len)])), (t0, .inl (cI, 96, .inl lt)), (rd, .inr (2, [.int (nI st), .int ho, .int pa, .int si, .int li, .int (nI 1), .ref r0, .ref r1])), (r0, .inl (cI, 7, .inl lg)), (r1, .inl (cL, 3, .inr (.inr (.inr (.inr (xL3 (la 0) (la 1) (la 2))))))), (la 0, .inr (0, [.int (ki 0), .int (ru 0), .int (ne 0), .ref (lk 0)])), (lk 0, .inl (cI, 12, .inl (ch 0))), (la 1, .inr (0, [.int (xKd lt len (p0 + 1)), .int (xDg lt len (xDp lt len p0)), .int (xDg lt len (xDp lt len p0 + 1)), .ref (lk 1)])), (lk 1, .inl (cI, 12, .inl (ch 1))), (la 2, .inr (0, [.int (ki 2), .int (ru 2), .int (ne 2), .ref (lk 2)])), (lk 2, .inl (cI, 12, .inl (ch 2)))] := hD
    refine lv_aload_n hx hb dX3_takeLine_60 rfl (lv_at hl 2 rfl) ?_
    refine lv_iload_n hx hb dX3_takeLine_61 rfl (lv_at hl 4 rfl) ?_
    have hPc := hP.sub (ws' := [(tx, .inr (3, [.ref t0, .int (nI len)])), (t0, .inl (cI, 96, .inl lt))]) [0, 1] rfl
    refine vp_callSi (va_Run.run (va_runV (As := [.int (nI p0)]) (rest := []) ⟨hx, hb, hml, hown, hts⟩ (g_X3_digitsEnd l D cI cL cZ cC tx t0 len lt p0 (by first | assumption | decide +kernel) (by omega)) (cwV 1 hts gX3_takeLine_X3_digitsEnd rfl rfl rfl (by decide +kernel) ⟨Nat.le_of_ble_eq_true rfl, Nat.le_of_ble_eq_true rfl⟩) ⟨xPc_bl, va_recv hK hPc (ci := 3) (q0 := 0) rfl rfl, xPc_use hPc hK⟩ rfl rfl hl.1 rfl (lv_room (Nat.le_of_ble_eq_true rfl)) dX3_takeLine_62 ⟨Nat.le_of_ble_eq_true rfl, Nat.le_of_ble_eq_true rfl⟩)) (fun r_18 er_18 => ?_)
    obtain rfl : (nI (xDe lt len p0) : Int32) = r_18 := Eq.symm er_18
    refine lv_iload hx hb dX3_takeLine_65 (lv_at hl 0 rfl) ?_
    refine lv_isub hx hb dX3_takeLine_67 ?_
    refine lv_iconst (v := 2) hx hb dX3_takeLine_68 (by decide) ?_
    refine lv_isub hx hb dX3_takeLine_69 ?_
    refine lv_istore (lv' := [(5, .int (((nI (xDe lt len p0)) - (nI (xDp lt len p0))) - 2)), (4, .int (nI (xDp lt len p0))), (3, .ref (la 1)), (0, .ref tx), (1, .ref rd), (2, .int (nI p0))]) hx hb dX3_takeLine_70 hl (by decide) rfl (fun ls hl => ?_)
    refine lv_iconst (v := 0) hx hb dX3_takeLine_72 (by decide) ?_
    refine lv_istore (lv' := [(6, .int 0), (5, .int (((nI (xDe lt len p0)) - (nI (xDp lt len p0))) - 2)), (4, .int (nI (xDp lt len p0))), (3, .ref (la 1)), (0, .ref tx), (1, .ref rd), (2, .int (nI p0))]) hx hb dX3_takeLine_73 hl (by decide) rfl (fun ls hl => ?_)
    refine xl_loopH (σ := Nat × (Nat → Int32)) (fun n q H locs ls => lv_has ls 7 [(6, .int (nI q.1)), (5, .int (((nI (xDe lt len p0)) - (nI (xDp lt len p0))) - 2)), (4, .int (nI (xDp lt len p0))), (3, .ref (la 1)), (0, .ref tx), (1, .ref rd), (2, .int (nI p0))] ∧ va_P D vwCl [(tx, .inr (3, [.ref t0, .int (nI len)])), (t0, .inl (cI, 96, .inl lt)), (rd, .inr (2, [.int (nI st), .int ho, .int pa, .int si, .int li, .int (nI 1), .ref r0, .ref r1])), (r0, .inl (cI, 7, .inl lg)), (r1, .inl (cL, 3, .inr (.inr (.inr (.inr (xL3 (la 0) (la 1) (la 2))))))), (la 0, .inr (0, [.int (ki 0), .int (ru 0), .int (ne 0), .ref (lk 0)])), (lk 0, .inl (cI, 12, .inl (ch 0))), (la 1, .inr (0, [.int (xKd lt len (p0 + 1)), .int (xDg lt len (xDp lt len p0)), .int (xDg lt len (xDp lt len p0 + 1)), .ref (lk 1)])), (lk 1, .inl (cI, 12, .inl q.2)), (la 2, .inr (0, [.int (ki 2), .int (ru 2), .int (ne 2), .ref (lk 2)])), (lk 2, .inl (cI, 12, .inl (ch 2)))] H ∧ va_D A [(tx, .inr (3, [.ref t0, .int (nI len)])), (t0, .inl (cI, 96, .inl lt)), (rd, .inr (2, [.int (nI st), .int ho, .int pa, .int si, .int li, .int (nI 1), .ref r0, .ref r1])), (r0, .inl (cI, 7, .inl lg)), (r1, .inl (cL, 3, .inr (.inr (.inr (.inr (xL3 (la 0) (la 1) (la 2))))))), (la 0, .inr (0, [.int (ki 0), .int (ru 0), .int (ne 0), .ref (lk 0)])), (lk 0, .inl (cI, 12, .inl (ch 0))), (la 1, .inr (0, [.int (xKd lt len (p0 + 1)), .int (xDg lt len (xDp lt len p0)), .int (xDg lt len (xDp lt len p0 + 1)), .ref (lk 1)])), (lk 1, .inl (cI, 12, .inl q.2)), (la 2, .inr (0, [.int (ki 2), .int (ru 2), .int (ne 2), .ref (lk 2)])), (lk 2, .inl (cI, 12, .inl (ch 2)))] ∧ va_S A s.heap H locs ∧ (12 - q.1 < n) ∧ (q.1 ≤ 12) ∧ (q.2 = xCp (xCf lt len p0) (ch 1) q.1)) (13) (0, ch 1) ⟨lv_sub hl [0, 1, 2, 3, 4, 5, 6] rfl, hP.sub [0, 1, 2, 3, 4, 5, 6, 7, 8, 9, 10] rfl, hD.sub [0, 1, 2, 3, 4, 5, 6, 7, 8, 9, 10] (by decide) rfl, hS, by (try dsimp only); exact ⟨by omega, by omega, (xCp_0 _ _).symm⟩⟩ (fun q H lc ls h => absurd h.2.2.2.2.1 (Nat.not_lt_zero _)) ?_
    intro n_75 q_75 H locs ls ih_75 hI_75
    obtain ⟨hl, hP, hD, hS, hI_75⟩ := hI_75
    obtain ⟨t1, f1⟩ := q_75
    obtain ⟨h1, h2, h3⟩ := hI_75
    try dsimp only at hl hP hD h1 h2 h3
    refine lv_iload hx hb dX3_takeLine_75 (lv_at hl 0 rfl) ?_
    refine lv_bipush (v := 12) hx hb dX3_takeLine_77 (by decide) ?_
    refine lv_icmp_ge (tgt := 117) hx hb dX3_takeLine_79 (by decide) (fun c_19 => ?_) (fun c_19 => ?_)
    · have w12 : t1 = 12 := by have w := mt (nI_ltI (a := t1) (b := 12) (by omega) (by omega)).mpr (Int32.not_lt.mpr c_19); omega
      rw [w12] at h3
      rw [h3] at hP hD
      have hP : va_P D vwCl [(tx, .inr (3, [.ref t0, .int (nI len)])), (t0, .inl (cI, 96, .inl lt)), (rd, .inr (2, [.int (nI st), .int ho, .int pa, .int si, .int li, .int (nI 1), .ref r0, .ref r1])), (r0, .inl (cI, 7, .inl lg)), (r1, .inl (cL, 3, .inr (.inr (.inr (.inr (xL3 (la 0) (la 1) (la 2))))))), (la 0, .inr (0, [.int (ki 0), .int (ru 0), .int (ne 0), .ref (lk 0)])), (lk 0, .inl (cI, 12, .inl (ch 0))), (la 1, .inr (0, [.int (xKd lt len (p0 + 1)), .int (xDg lt len (xDp lt len p0)), .int (xDg lt len (xDp lt len p0 + 1)), .ref (lk 1)])), (lk 1, .inl (cI, 12, .inl (xCp (xCf lt len p0) (ch 1) 12))), (la 2, .inr (0, [.int (ki 2), .int (ru 2), .int (ne 2), .ref (lk 2)])), (lk 2, .inl (cI, 12, .inl (ch 2)))] H := hP
      have hD : va_D A [(tx, .inr (3, [.ref t0, .int (nI len)])), (t0, .inl (cI, 96, .inl lt)), (rd, .inr (2, [.int (nI st), .int ho, .int pa, .int si, .int li, .int (nI 1), .ref r0, .ref r1])), (r0, .inl (cI, 7, .inl lg)), (r1, .inl (cL, 3, .inr (.inr (.inr (.inr (xL3 (la 0) (la 1) (la 2))))))), (la 0, .inr (0, [.int (ki 0), .int (ru 0), .int (ne 0), .ref (lk 0)])), (lk 0, .inl (cI, 12, .inl (ch 0))), (la 1, .inr (0, [.int (xKd lt len (p0 + 1)), .int (xDg lt len (xDp lt len p0)), .int (xDg lt len (xDp lt len p0 + 1)), .ref (lk 1)])), (lk 1, .inl (cI, 12, .inl (xCp (xCf lt len p0) (ch 1) 12))), (la 2, .inr (0, [.int (ki 2), .int (ru 2), .int (ne 2), .ref (lk 2)])), (lk 2, .inl (cI, 12, .inl (ch 2)))] := hD
      refine lv_aload_n hx hb dX3_takeLine_117 rfl (lv_at hl 5 rfl) ?_
      refine lv_dup hx hb dX3_takeLine_118 rfl ?_
      refine va_get (D := D) (ci := 2) (v := .int (nI 1)) (C := RX2) (T := TX2) (N := 8) hx hb hts hwX2 hown hK hP 2 rfl rfl 5 (by decide) (hts (.fieldLink RX3 78 "WaitOrWalkOn$Road" "lineCount" "I") (by decide +kernel)) (fun _ h9 => h9) rfl dX3_takeLine_119 ?_
      refine lv_iconst (v := 1) hx hb dX3_takeLine_122 (by decide) ?_
      refine lv_iadd hx hb dX3_takeLine_123 ?_
      refine xv_int (y := nI (1 + 1)) (nI_1 1) ?_
      refine va_put (D := D) (ci := 2) (v := .int (nI (1 + 1))) (ty := .int) (C := RX2) (T := TX2) (N := 8) hx hb hts hwX2 tyX2 tyX2_ok nmX2 hown hK hP hD hS 2 rfl rfl 5 (by decide) (hts (.fieldLink RX3 78 "WaitOrWalkOn$Road" "lineCount" "I") (by decide +kernel)) (fun _ h9 => h9) rfl (by decide +kernel) rfl rfl (Nat.le_of_ble_eq_true rfl) dX3_takeLine_124 (fun H locs hP hD hS => ?_)
      have hP : va_P D vwCl [(tx, .inr (3, [.ref t0, .int (nI len)])), (t0, .inl (cI, 96, .inl lt)), (rd, .inr (2, [.int (nI st), .int ho, .int pa, .int si, .int li, .int (nI (1 + 1)), .ref r0, .ref r1])), (r0, .inl (cI, 7, .inl lg)), (r1, .inl (cL, 3, .inr (.inr (.inr (.inr (xL3 (la 0) (la 1) (la 2))))))), (la 0, .inr (0, [.int (ki 0), .int (ru 0), .int (ne 0), .ref (lk 0)])), (lk 0, .inl (cI, 12, .inl (ch 0))), (la 1, .inr (0, [.int (xKd lt len (p0 + 1)), .int (xDg lt len (xDp lt len p0)), .int (xDg lt len (xDp lt len p0 + 1)), .ref (lk 1)])), (lk 1, .inl (cI, 12, .inl (xCp (xCf lt len p0) (ch 1) 12))), (la 2, .inr (0, [.int (ki 2), .int (ru 2), .int (ne 2), .ref (lk 2)])), (lk 2, .inl (cI, 12, .inl (ch 2)))] H := hP
      have hD : va_D A [(tx, .inr (3, [.ref t0, .int (nI len)])), (t0, .inl (cI, 96, .inl lt)), (rd, .inr (2, [.int (nI st), .int ho, .int pa, .int si, .int li, .int (nI (1 + 1)), .ref r0, .ref r1])), (r0, .inl (cI, 7, .inl lg)), (r1, .inl (cL, 3, .inr (.inr (.inr (.inr (xL3 (la 0) (la 1) (la 2))))))), (la 0, .inr (0, [.int (ki 0), .int (ru 0), .int (ne 0), .ref (lk 0)])), (lk 0, .inl (cI, 12, .inl (ch 0))), (la 1, .inr (0, [.int (xKd lt len (p0 + 1)), .int (xDg lt len (xDp lt len p0)), .int (xDg lt len (xDp lt len p0 + 1)), .ref (lk 1)])), (lk 1, .inl (cI, 12, .inl (xCp (xCf lt len p0) (ch 1) 12))), (la 2, .inr (0, [.int (ki 2), .int (ru 2), .int (ne 2), .ref (lk 2)])), (lk 2, .inl (cI, 12, .inl (ch 2)))] := hD
      refine lv_aload_n hx hb dX3_takeLine_127 rfl (lv_at hl 3 rfl) ?_
      refine va_get (D := D) (ci := 0) (v := .int (xDg lt len (xDp lt len p0))) (C := RX0) (T := TX0) (N := 4) hx hb hts hwX0 hown hK hP 7 rfl rfl 1 (by decide) (hts (.fieldLink RX3 90 "WaitOrWalkOn$Line" "run" "I") (by decide +kernel)) (fun _ h9 => h9) rfl dX3_takeLine_128 ?_
      refine lv_if_le (tgt := 145) hx hb dX3_takeLine_131 (by decide) (fun c_20 => ?_) (fun c_20 => ?_)
      · refine lv_iconst (v := 0) hx hb dX3_takeLine_145 (by decide) ?_
        have hP9 := hP.sub (ws' := [(tx, .inr (3, [.ref t0, .int (nI len)])), (t0, .inl (cI, 96, .inl lt)), (rd, .inr (2, [.int (nI st), .int ho, .int pa, .int si, .int li, .int (nI (1 + 1)), .ref r0, .ref r1])), (r0, .inl (cI, 7, .inl lg)), (r1, .inl (cL, 3, .inr (.inr (.inr (.inr (xL3 (la 0) (la 1) (la 2))))))), (la 0, .inr (0, [.int (ki 0), .int (ru 0), .int (ne 0), .ref (lk 0)])), (lk 0, .inl (cI, 12, .inl (ch 0))), (la 1, .inr (0, [.int (xKd lt len (p0 + 1)), .int (xDg lt len (xDp lt len p0)), .int (xDg lt len (xDp lt len p0 + 1)), .ref (lk 1)])), (lk 1, .inl (cI, 12, .inl (xCp (xCf lt len p0) (ch 1) 12))), (la 2, .inr (0, [.int (ki 2), .int (ru 2), .int (ne 2), .ref (lk 2)])), (lk 2, .inl (cI, 12, .inl (ch 2)))]) [0, 1, 2, 3, 4, 5, 6, 7, 8, 9, 10] rfl
        have hD9 := hD.sub (ws' := [(tx, .inr (3, [.ref t0, .int (nI len)])), (t0, .inl (cI, 96, .inl lt)), (rd, .inr (2, [.int (nI st), .int ho, .int pa, .int si, .int li, .int (nI (1 + 1)), .ref r0, .ref r1])), (r0, .inl (cI, 7, .inl lg)), (r1, .inl (cL, 3, .inr (.inr (.inr (.inr (xL3 (la 0) (la 1) (la 2))))))), (la 0, .inr (0, [.int (ki 0), .int (ru 0), .int (ne 0), .ref (lk 0)])), (lk 0, .inl (cI, 12, .inl (ch 0))), (la 1, .inr (0, [.int (xKd lt len (p0 + 1)), .int (xDg lt len (xDp lt len p0)), .int (xDg lt len (xDp lt len p0 + 1)), .ref (lk 1)])), (lk 1, .inl (cI, 12, .inl (xCp (xCf lt len p0) (ch 1) 12))), (la 2, .inr (0, [.int (ki 2), .int (ru 2), .int (ne 2), .ref (lk 2)])), (lk 2, .inl (cI, 12, .inl (ch 2)))]) [0, 1, 2, 3, 4, 5, 6, 7, 8, 9, 10] (by decide) rfl
        have hE9 : ([(tx, .inr (3, [.ref t0, .int (nI len)])), (t0, .inl (cI, 96, .inl lt)), (rd, .inr (2, [.int (nI st), .int ho, .int pa, .int si, .int li, .int (nI (1 + 1)), .ref r0, .ref r1])), (r0, .inl (cI, 7, .inl lg)), (r1, .inl (cL, 3, .inr (.inr (.inr (.inr (xL3 (la 0) (la 1) (la 2))))))), (la 0, .inr (0, [.int (ki 0), .int (ru 0), .int (ne 0), .ref (lk 0)])), (lk 0, .inl (cI, 12, .inl (ch 0))), (la 1, .inr (0, [.int (xKd lt len (p0 + 1)), .int (xDg lt len (xDp lt len p0)), .int (xDg lt len (xDp lt len p0 + 1)), .ref (lk 1)])), (lk 1, .inl (cI, 12, .inl (xCp (xCf lt len p0) (ch 1) 12))), (la 2, .inr (0, [.int (ki 2), .int (ru 2), .int (ne 2), .ref (lk 2)])), (lk 2, .inl (cI, 12, .inl (ch 2)))] : va_W) = [(tx, .inr (3, [.ref t0, .int (nI len)])), (t0, .inl (cI, 96, .inl lt)), (rd, .inr (2, [.int (nI (((xTL lt len p0 (st, 1, ho, pa, si, li, lg, ki, ru, ne, ch)).1).1)), .int (((xTL lt len p0 (st, 1, ho, pa, si, li, lg, ki, ru, ne, ch)).1).2.2.1), .int (((xTL lt len p0 (st, 1, ho, pa, si, li, lg, ki, ru, ne, ch)).1).2.2.2.1), .int (((xTL lt len p0 (st, 1, ho, pa, si, li, lg, ki, ru, ne, ch)).1).2.2.2.2.1), .int (((xTL lt len p0 (st, 1, ho, pa, si, li, lg, ki, ru, ne, ch)).1).2.2.2.2.2.1), .int (nI (((xTL lt len p0 (st, 1, ho, pa, si, li, lg, ki, ru, ne, ch)).1).2.1)), .ref r0, .ref r1])), (r0, .inl (cI, 7, .inl (((xTL lt len p0 (st, 1, ho, pa, si, li, lg, ki, ru, ne, ch)).1).2.2.2.2.2.2.1))), (r1, .inl (cL, 3, .inr (.inr (.inr (.inr (xL3 (la 0) (la 1) (la 2))))))), (la 0, .inr (0, [.int ((((xTL lt len p0 (st, 1, ho, pa, si, li, lg, ki, ru, ne, ch)).1).2.2.2.2.2.2.2.1) 0), .int ((((xTL lt len p0 (st, 1, ho, pa, si, li, lg, ki, ru, ne, ch)).1).2.2.2.2.2.2.2.2.1) 0), .int ((((xTL lt len p0 (st, 1, ho, pa, si, li, lg, ki, ru, ne, ch)).1).2.2.2.2.2.2.2.2.2.1) 0), .ref (lk 0)])), (lk 0, .inl (cI, 12, .inl ((((xTL lt len p0 (st, 1, ho, pa, si, li, lg, ki, ru, ne, ch)).1).2.2.2.2.2.2.2.2.2.2) 0))), (la 1, .inr (0, [.int ((((xTL lt len p0 (st, 1, ho, pa, si, li, lg, ki, ru, ne, ch)).1).2.2.2.2.2.2.2.1) 1), .int ((((xTL lt len p0 (st, 1, ho, pa, si, li, lg, ki, ru, ne, ch)).1).2.2.2.2.2.2.2.2.1) 1), .int ((((xTL lt len p0 (st, 1, ho, pa, si, li, lg, ki, ru, ne, ch)).1).2.2.2.2.2.2.2.2.2.1) 1), .ref (lk 1)])), (lk 1, .inl (cI, 12, .inl ((((xTL lt len p0 (st, 1, ho, pa, si, li, lg, ki, ru, ne, ch)).1).2.2.2.2.2.2.2.2.2.2) 1))), (la 2, .inr (0, [.int ((((xTL lt len p0 (st, 1, ho, pa, si, li, lg, ki, ru, ne, ch)).1).2.2.2.2.2.2.2.1) 2), .int ((((xTL lt len p0 (st, 1, ho, pa, si, li, lg, ki, ru, ne, ch)).1).2.2.2.2.2.2.2.2.1) 2), .int ((((xTL lt len p0 (st, 1, ho, pa, si, li, lg, ki, ru, ne, ch)).1).2.2.2.2.2.2.2.2.2.1) 2), .ref (lk 2)])), (lk 2, .inl (cI, 12, .inl ((((xTL lt len p0 (st, 1, ho, pa, si, li, lg, ki, ru, ne, ch)).1).2.2.2.2.2.2.2.2.2.2) 2)))] := rfl
        exact W.zret (v := 0) (ty := .boolean) hx hb hr (by decide +kernel) (fun t ht hW => ⟨⟨_, (), rfl, (by show _ = (if 0 < xDg lt len (xDp lt len p0) then (if 0 < xSm (xCp (xCf lt len p0) (ch 1) 12) 12 + xDg lt len (xDp lt len p0 + 1) then 1 else 0) else 0); rw [if_neg (Int32.not_lt.mpr c_20)]), by rw [ht]; exact hE9 ▸ hP9, hE9 ▸ hD9⟩, hS.F ht⟩) hS.2.2 dX3_takeLine_146
      · refine lv_aload_n hx hb dX3_takeLine_134 rfl (lv_at hl 3 rfl) ?_
        have hPc := hP.sub (ws' := [((la 1), .inr (0, [.int (xKd lt len (p0 + 1)), .int (xDg lt len (xDp lt len p0)), .int (xDg lt len (xDp lt len p0 + 1)), .ref (lk 1)])), ((lk 1), .inl (cI, 12, .inl (xCp (xCf lt len p0) (ch 1) 12)))]) [7, 8] rfl
        refine vp_callSi (va_Run.run (va_runV (As := []) (rest := []) ⟨hx, hb, hml, hown, hts⟩ (g_X0_total l D cI cL cZ cC (la 1) (lk 1) (xKd lt len (p0 + 1)) (xDg lt len (xDp lt len p0)) (xDg lt len (xDp lt len p0 + 1)) (xCp (xCf lt len p0) (ch 1) 12) ) (cwV 0 hts gX3_takeLine_X0_total rfl rfl rfl (by decide +kernel) ⟨Nat.le_of_ble_eq_true rfl, Nat.le_of_ble_eq_true rfl⟩) ⟨xPc_bl, va_recv hK hPc (ci := 0) (q0 := 0) rfl rfl, xPc_use hPc hK⟩ rfl rfl hl.1 rfl (lv_room (Nat.le_of_ble_eq_true rfl)) dX3_takeLine_135 ⟨Nat.le_of_ble_eq_true rfl, Nat.le_of_ble_eq_true rfl⟩)) (fun r_21 er_21 => ?_)
        obtain rfl : (xSm (xCp (xCf lt len p0) (ch 1) 12) 12 + (xDg lt len (xDp lt len p0 + 1)) : Int32) = r_21 := Eq.symm er_21
        refine lv_if_le (tgt := 145) hx hb dX3_takeLine_138 (by decide) (fun c_22 => ?_) (fun c_22 => ?_)
        · refine lv_iconst (v := 0) hx hb dX3_takeLine_145 (by decide) ?_
          have hP9 := hP.sub (ws' := [(tx, .inr (3, [.ref t0, .int (nI len)])), (t0, .inl (cI, 96, .inl lt)), (rd, .inr (2, [.int (nI st), .int ho, .int pa, .int si, .int li, .int (nI (1 + 1)), .ref r0, .ref r1])), (r0, .inl (cI, 7, .inl lg)), (r1, .inl (cL, 3, .inr (.inr (.inr (.inr (xL3 (la 0) (la 1) (la 2))))))), (la 0, .inr (0, [.int (ki 0), .int (ru 0), .int (ne 0), .ref (lk 0)])), (lk 0, .inl (cI, 12, .inl (ch 0))), (la 1, .inr (0, [.int (xKd lt len (p0 + 1)), .int (xDg lt len (xDp lt len p0)), .int (xDg lt len (xDp lt len p0 + 1)), .ref (lk 1)])), (lk 1, .inl (cI, 12, .inl (xCp (xCf lt len p0) (ch 1) 12))), (la 2, .inr (0, [.int (ki 2), .int (ru 2), .int (ne 2), .ref (lk 2)])), (lk 2, .inl (cI, 12, .inl (ch 2)))]) [0, 1, 2, 3, 4, 5, 6, 7, 8, 9, 10] rfl
          have hD9 := hD.sub (ws' := [(tx, .inr (3, [.ref t0, .int (nI len)])), (t0, .inl (cI, 96, .inl lt)), (rd, .inr (2, [.int (nI st), .int ho, .int pa, .int si, .int li, .int (nI (1 + 1)), .ref r0, .ref r1])), (r0, .inl (cI, 7, .inl lg)), (r1, .inl (cL, 3, .inr (.inr (.inr (.inr (xL3 (la 0) (la 1) (la 2))))))), (la 0, .inr (0, [.int (ki 0), .int (ru 0), .int (ne 0), .ref (lk 0)])), (lk 0, .inl (cI, 12, .inl (ch 0))), (la 1, .inr (0, [.int (xKd lt len (p0 + 1)), .int (xDg lt len (xDp lt len p0)), .int (xDg lt len (xDp lt len p0 + 1)), .ref (lk 1)])), (lk 1, .inl (cI, 12, .inl (xCp (xCf lt len p0) (ch 1) 12))), (la 2, .inr (0, [.int (ki 2), .int (ru 2), .int (ne 2), .ref (lk 2)])), (lk 2, .inl (cI, 12, .inl (ch 2)))]) [0, 1, 2, 3, 4, 5, 6, 7, 8, 9, 10] (by decide) rfl
          have hE9 : ([(tx, .inr (3, [.ref t0, .int (nI len)])), (t0, .inl (cI, 96, .inl lt)), (rd, .inr (2, [.int (nI st), .int ho, .int pa, .int si, .int li, .int (nI (1 + 1)), .ref r0, .ref r1])), (r0, .inl (cI, 7, .inl lg)), (r1, .inl (cL, 3, .inr (.inr (.inr (.inr (xL3 (la 0) (la 1) (la 2))))))), (la 0, .inr (0, [.int (ki 0), .int (ru 0), .int (ne 0), .ref (lk 0)])), (lk 0, .inl (cI, 12, .inl (ch 0))), (la 1, .inr (0, [.int (xKd lt len (p0 + 1)), .int (xDg lt len (xDp lt len p0)), .int (xDg lt len (xDp lt len p0 + 1)), .ref (lk 1)])), (lk 1, .inl (cI, 12, .inl (xCp (xCf lt len p0) (ch 1) 12))), (la 2, .inr (0, [.int (ki 2), .int (ru 2), .int (ne 2), .ref (lk 2)])), (lk 2, .inl (cI, 12, .inl (ch 2)))] : va_W) = [(tx, .inr (3, [.ref t0, .int (nI len)])), (t0, .inl (cI, 96, .inl lt)), (rd, .inr (2, [.int (nI (((xTL lt len p0 (st, 1, ho, pa, si, li, lg, ki, ru, ne, ch)).1).1)), .int (((xTL lt len p0 (st, 1, ho, pa, si, li, lg, ki, ru, ne, ch)).1).2.2.1), .int (((xTL lt len p0 (st, 1, ho, pa, si, li, lg, ki, ru, ne, ch)).1).2.2.2.1), .int (((xTL lt len p0 (st, 1, ho, pa, si, li, lg, ki, ru, ne, ch)).1).2.2.2.2.1), .int (((xTL lt len p0 (st, 1, ho, pa, si, li, lg, ki, ru, ne, ch)).1).2.2.2.2.2.1), .int (nI (((xTL lt len p0 (st, 1, ho, pa, si, li, lg, ki, ru, ne, ch)).1).2.1)), .ref r0, .ref r1])), (r0, .inl (cI, 7, .inl (((xTL lt len p0 (st, 1, ho, pa, si, li, lg, ki, ru, ne, ch)).1).2.2.2.2.2.2.1))), (r1, .inl (cL, 3, .inr (.inr (.inr (.inr (xL3 (la 0) (la 1) (la 2))))))), (la 0, .inr (0, [.int ((((xTL lt len p0 (st, 1, ho, pa, si, li, lg, ki, ru, ne, ch)).1).2.2.2.2.2.2.2.1) 0), .int ((((xTL lt len p0 (st, 1, ho, pa, si, li, lg, ki, ru, ne, ch)).1).2.2.2.2.2.2.2.2.1) 0), .int ((((xTL lt len p0 (st, 1, ho, pa, si, li, lg, ki, ru, ne, ch)).1).2.2.2.2.2.2.2.2.2.1) 0), .ref (lk 0)])), (lk 0, .inl (cI, 12, .inl ((((xTL lt len p0 (st, 1, ho, pa, si, li, lg, ki, ru, ne, ch)).1).2.2.2.2.2.2.2.2.2.2) 0))), (la 1, .inr (0, [.int ((((xTL lt len p0 (st, 1, ho, pa, si, li, lg, ki, ru, ne, ch)).1).2.2.2.2.2.2.2.1) 1), .int ((((xTL lt len p0 (st, 1, ho, pa, si, li, lg, ki, ru, ne, ch)).1).2.2.2.2.2.2.2.2.1) 1), .int ((((xTL lt len p0 (st, 1, ho, pa, si, li, lg, ki, ru, ne, ch)).1).2.2.2.2.2.2.2.2.2.1) 1), .ref (lk 1)])), (lk 1, .inl (cI, 12, .inl ((((xTL lt len p0 (st, 1, ho, pa, si, li, lg, ki, ru, ne, ch)).1).2.2.2.2.2.2.2.2.2.2) 1))), (la 2, .inr (0, [.int ((((xTL lt len p0 (st, 1, ho, pa, si, li, lg, ki, ru, ne, ch)).1).2.2.2.2.2.2.2.1) 2), .int ((((xTL lt len p0 (st, 1, ho, pa, si, li, lg, ki, ru, ne, ch)).1).2.2.2.2.2.2.2.2.1) 2), .int ((((xTL lt len p0 (st, 1, ho, pa, si, li, lg, ki, ru, ne, ch)).1).2.2.2.2.2.2.2.2.2.1) 2), .ref (lk 2)])), (lk 2, .inl (cI, 12, .inl ((((xTL lt len p0 (st, 1, ho, pa, si, li, lg, ki, ru, ne, ch)).1).2.2.2.2.2.2.2.2.2.2) 2)))] := rfl
          exact W.zret (v := 0) (ty := .boolean) hx hb hr (by decide +kernel) (fun t ht hW => ⟨⟨_, (), rfl, (by show _ = (if 0 < xDg lt len (xDp lt len p0) then (if 0 < xSm (xCp (xCf lt len p0) (ch 1) 12) 12 + xDg lt len (xDp lt len p0 + 1) then 1 else 0) else 0); rw [if_pos (Int32.not_le.mp c_20), if_neg (Int32.not_lt.mpr c_22)]), by rw [ht]; exact hE9 ▸ hP9, hE9 ▸ hD9⟩, hS.F ht⟩) hS.2.2 dX3_takeLine_146
        · refine lv_iconst (v := 1) hx hb dX3_takeLine_141 (by decide) ?_
          refine lv_goto (tgt := 146) hx hb dX3_takeLine_142 (by decide) ?_
          have hP9 := hP.sub (ws' := [(tx, .inr (3, [.ref t0, .int (nI len)])), (t0, .inl (cI, 96, .inl lt)), (rd, .inr (2, [.int (nI st), .int ho, .int pa, .int si, .int li, .int (nI (1 + 1)), .ref r0, .ref r1])), (r0, .inl (cI, 7, .inl lg)), (r1, .inl (cL, 3, .inr (.inr (.inr (.inr (xL3 (la 0) (la 1) (la 2))))))), (la 0, .inr (0, [.int (ki 0), .int (ru 0), .int (ne 0), .ref (lk 0)])), (lk 0, .inl (cI, 12, .inl (ch 0))), (la 1, .inr (0, [.int (xKd lt len (p0 + 1)), .int (xDg lt len (xDp lt len p0)), .int (xDg lt len (xDp lt len p0 + 1)), .ref (lk 1)])), (lk 1, .inl (cI, 12, .inl (xCp (xCf lt len p0) (ch 1) 12))), (la 2, .inr (0, [.int (ki 2), .int (ru 2), .int (ne 2), .ref (lk 2)])), (lk 2, .inl (cI, 12, .inl (ch 2)))]) [0, 1, 2, 3, 4, 5, 6, 7, 8, 9, 10] rfl
          have hD9 := hD.sub (ws' := [(tx, .inr (3, [.ref t0, .int (nI len)])), (t0, .inl (cI, 96, .inl lt)), (rd, .inr (2, [.int (nI st), .int ho, .int pa, .int si, .int li, .int (nI (1 + 1)), .ref r0, .ref r1])), (r0, .inl (cI, 7, .inl lg)), (r1, .inl (cL, 3, .inr (.inr (.inr (.inr (xL3 (la 0) (la 1) (la 2))))))), (la 0, .inr (0, [.int (ki 0), .int (ru 0), .int (ne 0), .ref (lk 0)])), (lk 0, .inl (cI, 12, .inl (ch 0))), (la 1, .inr (0, [.int (xKd lt len (p0 + 1)), .int (xDg lt len (xDp lt len p0)), .int (xDg lt len (xDp lt len p0 + 1)), .ref (lk 1)])), (lk 1, .inl (cI, 12, .inl (xCp (xCf lt len p0) (ch 1) 12))), (la 2, .inr (0, [.int (ki 2), .int (ru 2), .int (ne 2), .ref (lk 2)])), (lk 2, .inl (cI, 12, .inl (ch 2)))]) [0, 1, 2, 3, 4, 5, 6, 7, 8, 9, 10] (by decide) rfl
          have hE9 : ([(tx, .inr (3, [.ref t0, .int (nI len)])), (t0, .inl (cI, 96, .inl lt)), (rd, .inr (2, [.int (nI st), .int ho, .int pa, .int si, .int li, .int (nI (1 + 1)), .ref r0, .ref r1])), (r0, .inl (cI, 7, .inl lg)), (r1, .inl (cL, 3, .inr (.inr (.inr (.inr (xL3 (la 0) (la 1) (la 2))))))), (la 0, .inr (0, [.int (ki 0), .int (ru 0), .int (ne 0), .ref (lk 0)])), (lk 0, .inl (cI, 12, .inl (ch 0))), (la 1, .inr (0, [.int (xKd lt len (p0 + 1)), .int (xDg lt len (xDp lt len p0)), .int (xDg lt len (xDp lt len p0 + 1)), .ref (lk 1)])), (lk 1, .inl (cI, 12, .inl (xCp (xCf lt len p0) (ch 1) 12))), (la 2, .inr (0, [.int (ki 2), .int (ru 2), .int (ne 2), .ref (lk 2)])), (lk 2, .inl (cI, 12, .inl (ch 2)))] : va_W) = [(tx, .inr (3, [.ref t0, .int (nI len)])), (t0, .inl (cI, 96, .inl lt)), (rd, .inr (2, [.int (nI (((xTL lt len p0 (st, 1, ho, pa, si, li, lg, ki, ru, ne, ch)).1).1)), .int (((xTL lt len p0 (st, 1, ho, pa, si, li, lg, ki, ru, ne, ch)).1).2.2.1), .int (((xTL lt len p0 (st, 1, ho, pa, si, li, lg, ki, ru, ne, ch)).1).2.2.2.1), .int (((xTL lt len p0 (st, 1, ho, pa, si, li, lg, ki, ru, ne, ch)).1).2.2.2.2.1), .int (((xTL lt len p0 (st, 1, ho, pa, si, li, lg, ki, ru, ne, ch)).1).2.2.2.2.2.1), .int (nI (((xTL lt len p0 (st, 1, ho, pa, si, li, lg, ki, ru, ne, ch)).1).2.1)), .ref r0, .ref r1])), (r0, .inl (cI, 7, .inl (((xTL lt len p0 (st, 1, ho, pa, si, li, lg, ki, ru, ne, ch)).1).2.2.2.2.2.2.1))), (r1, .inl (cL, 3, .inr (.inr (.inr (.inr (xL3 (la 0) (la 1) (la 2))))))), (la 0, .inr (0, [.int ((((xTL lt len p0 (st, 1, ho, pa, si, li, lg, ki, ru, ne, ch)).1).2.2.2.2.2.2.2.1) 0), .int ((((xTL lt len p0 (st, 1, ho, pa, si, li, lg, ki, ru, ne, ch)).1).2.2.2.2.2.2.2.2.1) 0), .int ((((xTL lt len p0 (st, 1, ho, pa, si, li, lg, ki, ru, ne, ch)).1).2.2.2.2.2.2.2.2.2.1) 0), .ref (lk 0)])), (lk 0, .inl (cI, 12, .inl ((((xTL lt len p0 (st, 1, ho, pa, si, li, lg, ki, ru, ne, ch)).1).2.2.2.2.2.2.2.2.2.2) 0))), (la 1, .inr (0, [.int ((((xTL lt len p0 (st, 1, ho, pa, si, li, lg, ki, ru, ne, ch)).1).2.2.2.2.2.2.2.1) 1), .int ((((xTL lt len p0 (st, 1, ho, pa, si, li, lg, ki, ru, ne, ch)).1).2.2.2.2.2.2.2.2.1) 1), .int ((((xTL lt len p0 (st, 1, ho, pa, si, li, lg, ki, ru, ne, ch)).1).2.2.2.2.2.2.2.2.2.1) 1), .ref (lk 1)])), (lk 1, .inl (cI, 12, .inl ((((xTL lt len p0 (st, 1, ho, pa, si, li, lg, ki, ru, ne, ch)).1).2.2.2.2.2.2.2.2.2.2) 1))), (la 2, .inr (0, [.int ((((xTL lt len p0 (st, 1, ho, pa, si, li, lg, ki, ru, ne, ch)).1).2.2.2.2.2.2.2.1) 2), .int ((((xTL lt len p0 (st, 1, ho, pa, si, li, lg, ki, ru, ne, ch)).1).2.2.2.2.2.2.2.2.1) 2), .int ((((xTL lt len p0 (st, 1, ho, pa, si, li, lg, ki, ru, ne, ch)).1).2.2.2.2.2.2.2.2.2.1) 2), .ref (lk 2)])), (lk 2, .inl (cI, 12, .inl ((((xTL lt len p0 (st, 1, ho, pa, si, li, lg, ki, ru, ne, ch)).1).2.2.2.2.2.2.2.2.2.2) 2)))] := rfl
          exact W.zret (v := 1) (ty := .boolean) hx hb hr (by decide +kernel) (fun t ht hW => ⟨⟨_, (), rfl, (by show _ = (if 0 < xDg lt len (xDp lt len p0) then (if 0 < xSm (xCp (xCf lt len p0) (ch 1) 12) 12 + xDg lt len (xDp lt len p0 + 1) then 1 else 0) else 0); rw [if_pos (Int32.not_le.mp c_20), if_pos (Int32.not_le.mp c_22)]), by rw [ht]; exact hE9 ▸ hP9, hE9 ▸ hD9⟩, hS.F ht⟩) hS.2.2 dX3_takeLine_146
    · refine lv_aload_n hx hb dX3_takeLine_82 rfl (lv_at hl 3 rfl) ?_
      refine va_get (D := D) (ci := 0) (v := .ref (lk 1)) (C := RX0) (T := TX0) (N := 4) hx hb hts hwX0 hown hK hP 7 rfl rfl 3 (by decide) (hts (.fieldLink RX3 96 "WaitOrWalkOn$Line" "chances" "[I") (by decide +kernel)) (fun _ h9 => h9) rfl dX3_takeLine_83 ?_
      refine lv_iload hx hb dX3_takeLine_86 (lv_at hl 0 rfl) ?_
      refine xl_cut (σ := Unit) 110 (fun _ => [.int (xCf lt len p0 t1), .int (nI t1), .ref (lk 1)]) (fun _ ls => lv_has ls 7 [(6, .int (nI t1)), (5, .int (((nI (xDe lt len p0)) - (nI (xDp lt len p0))) - 2)), (4, .int (nI (xDp lt len p0))), (3, .ref (la 1)), (0, .ref tx), (1, .ref rd), (2, .int (nI p0))]) ?_ ?_
      · intro _ ls hl
        refine va_iast (D := D) hx hb hK hP hD hS 8 0 rfl rfl (vp_in_nI (by have w := (nI_ltI (a := t1) (b := 12) (by omega) (by omega)).mp (Int32.not_le.mp c_19); omega) (by decide)) dX3_takeLine_110 (fun H locs hP hD hS => ?_)
        rw [nI_clamp (by omega)] at hP hD
        have hP : va_P D vwCl [(tx, .inr (3, [.ref t0, .int (nI len)])), (t0, .inl (cI, 96, .inl lt)), (rd, .inr (2, [.int (nI st), .int ho, .int pa, .int si, .int li, .int (nI 1), .ref r0, .ref r1])), (r0, .inl (cI, 7, .inl lg)), (r1, .inl (cL, 3, .inr (.inr (.inr (.inr (xL3 (la 0) (la 1) (la 2))))))), (la 0, .inr (0, [.int (ki 0), .int (ru 0), .int (ne 0), .ref (lk 0)])), (lk 0, .inl (cI, 12, .inl (ch 0))), (la 1, .inr (0, [.int (xKd lt len (p0 + 1)), .int (xDg lt len (xDp lt len p0)), .int (xDg lt len (xDp lt len p0 + 1)), .ref (lk 1)])), (lk 1, .inl (cI, 12, .inl (upd f1 t1 (xCf lt len p0 t1)))), (la 2, .inr (0, [.int (ki 2), .int (ru 2), .int (ne 2), .ref (lk 2)])), (lk 2, .inl (cI, 12, .inl (ch 2)))] H := hP
        have hD : va_D A [(tx, .inr (3, [.ref t0, .int (nI len)])), (t0, .inl (cI, 96, .inl lt)), (rd, .inr (2, [.int (nI st), .int ho, .int pa, .int si, .int li, .int (nI 1), .ref r0, .ref r1])), (r0, .inl (cI, 7, .inl lg)), (r1, .inl (cL, 3, .inr (.inr (.inr (.inr (xL3 (la 0) (la 1) (la 2))))))), (la 0, .inr (0, [.int (ki 0), .int (ru 0), .int (ne 0), .ref (lk 0)])), (lk 0, .inl (cI, 12, .inl (ch 0))), (la 1, .inr (0, [.int (xKd lt len (p0 + 1)), .int (xDg lt len (xDp lt len p0)), .int (xDg lt len (xDp lt len p0 + 1)), .ref (lk 1)])), (lk 1, .inl (cI, 12, .inl (upd f1 t1 (xCf lt len p0 t1)))), (la 2, .inr (0, [.int (ki 2), .int (ru 2), .int (ne 2), .ref (lk 2)])), (lk 2, .inl (cI, 12, .inl (ch 2)))] := hD
        refine lv_iinc (v := nI (t1 + 1)) (lv' := [(6, .int (nI (t1 + 1))), (5, .int (((nI (xDe lt len p0)) - (nI (xDp lt len p0))) - 2)), (4, .int (nI (xDp lt len p0))), (3, .ref (la 1)), (0, .ref tx), (1, .ref rd), (2, .int (nI p0))]) hx hb dX3_takeLine_111 hl (k := 0) rfl (nI_1 t1) (by decide) rfl (fun ls hl => ?_)
        refine lv_goto (tgt := 75) hx hb dX3_takeLine_114 (by decide) ?_
        have w := (nI_ltI (a := t1) (b := 12) (by omega) (by omega)).mp (Int32.not_le.mp c_19)
        exact ih_75 (t1 + 1, upd f1 t1 (xCf lt len p0 t1)) _ _ _ ⟨lv_sub hl [0, 1, 2, 3, 4, 5, 6] rfl, hP.sub [0, 1, 2, 3, 4, 5, 6, 7, 8, 9, 10] rfl, hD.sub [0, 1, 2, 3, 4, 5, 6, 7, 8, 9, 10] (by decide) rfl, hS, by (try dsimp only); exact ⟨by omega, by omega, by rw [h3]; exact xCp_s _ _ t1⟩⟩
      · intro K_110
        refine lv_iload hx hb dX3_takeLine_88 (lv_at hl 0 rfl) ?_
        refine lv_iload hx hb dX3_takeLine_90 (lv_at hl 1 rfl) ?_
        refine lv_icmp_ge (tgt := 109) hx hb dX3_takeLine_92 (by decide) (fun c_23 => ?_) (fun c_23 => ?_)
        · refine lv_iconst (v := 0) hx hb dX3_takeLine_109 (by decide) ?_
          refine xv_int (y := xCf lt len p0 t1) (xCf_f (Int32.not_lt.mpr c_23)) ?_
          exact K_110 () _ (lv_sub hl [0, 1, 2, 3, 4, 5, 6] rfl)
        · refine lv_aload_n hx hb dX3_takeLine_95 rfl (lv_at hl 4 rfl) ?_
          refine lv_iload hx hb dX3_takeLine_96 (lv_at hl 2 rfl) ?_
          refine lv_iconst (v := 2) hx hb dX3_takeLine_98 (by decide) ?_
          refine lv_iadd hx hb dX3_takeLine_99 ?_
          refine xv_int (y := nI (xDp lt len p0 + 2)) (nI_add _ 2) ?_
          refine lv_iload hx hb dX3_takeLine_100 (lv_at hl 0 rfl) ?_
          refine lv_iadd hx hb dX3_takeLine_102 ?_
          refine xv_int (y := nI (xDp lt len p0 + 2 + t1)) (nI_add _ _) ?_
          have hPc := hP.sub (ws' := [(tx, .inr (3, [.ref t0, .int (nI len)])), (t0, .inl (cI, 96, .inl lt))]) [0, 1] rfl
          refine vp_callSi (va_Run.run (va_runV (As := [.int (nI (xDp lt len p0 + 2 + t1))]) (rest := [.int (nI t1), .ref (lk 1)]) ⟨hx, hb, hml, hown, hts⟩ (g_X3_digit l D cI cL cZ cC tx t0 len lt (xDp lt len p0 + 2 + t1) (by first | assumption | decide +kernel) (by have w := (nI_ltI (a := t1) (b := 12) (by omega) (by omega)).mp (Int32.not_le.mp c_19); omega)) (cwV 1 hts gX3_takeLine_X3_digit rfl rfl rfl (by decide +kernel) ⟨Nat.le_of_ble_eq_true rfl, Nat.le_of_ble_eq_true rfl⟩) ⟨xPc_bl, va_recv hK hPc (ci := 3) (q0 := 0) rfl rfl, xPc_use hPc hK⟩ rfl rfl hl.1 rfl (lv_room (Nat.le_of_ble_eq_true rfl)) dX3_takeLine_103 ⟨Nat.le_of_ble_eq_true rfl, Nat.le_of_ble_eq_true rfl⟩)) (fun r_24 er_24 => ?_)
          obtain rfl : (xDg lt len (xDp lt len p0 + 2 + t1) : Int32) = r_24 := Eq.symm er_24
          refine lv_goto (tgt := 110) hx hb dX3_takeLine_106 (by decide) ?_
          refine xv_int (y := xCf lt len p0 t1) (xCf_t (Int32.not_le.mp c_23)) ?_
          exact K_110 () _ (lv_sub hl [0, 1, 2, 3, 4, 5, 6] rfl)
  · refine lv_aload_n hx hb dX3_takeLine_0 rfl (lv_at hl 1 rfl) ?_
    refine va_get (D := D) (ci := 2) (v := .int (nI 2)) (C := RX2) (T := TX2) (N := 8) hx hb hts hwX2 hown hK hP 2 rfl rfl 5 (by decide) (hts (.fieldLink RX3 78 "WaitOrWalkOn$Road" "lineCount" "I") (by decide +kernel)) (fun _ h9 => h9) rfl dX3_takeLine_1 ?_
    refine lv_iconst (v := 3) hx hb dX3_takeLine_4 (by decide) ?_
    refine lv_icmp_lt (tgt := 10) hx hb dX3_takeLine_5 (by decide) (fun c_25 => ?_) (fun c_25 => absurd (show nI 2 < 3 by decide +kernel) c_25)
    refine lv_aload_n hx hb dX3_takeLine_10 rfl (lv_at hl 1 rfl) ?_
    refine va_get (D := D) (ci := 2) (v := .ref r1) (C := RX2) (T := TX2) (N := 8) hx hb hts hwX2 hown hK hP 2 rfl rfl 7 (by decide) (hts (.fieldLink RX3 81 "WaitOrWalkOn$Road" "lines" "[LWaitOrWalkOn$Line;") (by decide +kernel)) (fun _ h9 => h9) rfl dX3_takeLine_11 ?_
    refine lv_aload_n hx hb dX3_takeLine_14 rfl (lv_at hl 1 rfl) ?_
    refine va_get (D := D) (ci := 2) (v := .int (nI 2)) (C := RX2) (T := TX2) (N := 8) hx hb hts hwX2 hown hK hP 2 rfl rfl 5 (by decide) (hts (.fieldLink RX3 78 "WaitOrWalkOn$Road" "lineCount" "I") (by decide +kernel)) (fun _ h9 => h9) rfl dX3_takeLine_15 ?_
    refine va_aldq (D := D) hx hb hK hP 4 1 rfl rfl (vp_in_nI (by decide) (by decide)) dX3_takeLine_18 ?_
    refine xv_ref (y := la 2) (xL3_at (by decide)) ?_
    refine lv_astore_n (lv' := [(3, .ref (la 2)), (0, .ref tx), (1, .ref rd), (2, .int (nI p0))]) hx hb dX3_takeLine_19 rfl hl (by decide) rfl (fun ls hl => ?_)
    refine lv_aload_n hx hb dX3_takeLine_20 rfl (lv_at hl 1 rfl) ?_
    refine lv_iload_n hx hb dX3_takeLine_21 rfl (lv_at hl 3 rfl) ?_
    have hPc := hP.sub (ws' := [(tx, .inr (3, [.ref t0, .int (nI len)])), (t0, .inl (cI, 96, .inl lt))]) [0, 1] rfl
    refine vp_callSi (va_Run.run (va_runV (As := [.int (nI p0)]) (rest := []) ⟨hx, hb, hml, hown, hts⟩ (g_X3_digitsPlace l D cI cL cZ cC tx t0 len lt p0 (by first | assumption | decide +kernel) (by omega)) (cwV 1 hts gX3_takeLine_X3_digitsPlace rfl rfl rfl (by decide +kernel) ⟨Nat.le_of_ble_eq_true rfl, Nat.le_of_ble_eq_true rfl⟩) ⟨xPc_bl, va_recv hK hPc (ci := 3) (q0 := 0) rfl rfl, xPc_use hPc hK⟩ rfl rfl hl.1 rfl (lv_room (Nat.le_of_ble_eq_true rfl)) dX3_takeLine_22 ⟨Nat.le_of_ble_eq_true rfl, Nat.le_of_ble_eq_true rfl⟩)) (fun r_26 er_26 => ?_)
    obtain rfl : (nI (xDp lt len p0) : Int32) = r_26 := Eq.symm er_26
    refine lv_istore (lv' := [(4, .int (nI (xDp lt len p0))), (3, .ref (la 2)), (0, .ref tx), (1, .ref rd), (2, .int (nI p0))]) hx hb dX3_takeLine_25 hl (by decide) rfl (fun ls hl => ?_)
    refine lv_aload_n hx hb dX3_takeLine_27 rfl (lv_at hl 1 rfl) ?_
    refine lv_aload_n hx hb dX3_takeLine_28 rfl (lv_at hl 2 rfl) ?_
    refine lv_iload_n hx hb dX3_takeLine_29 rfl (lv_at hl 4 rfl) ?_
    refine lv_iconst (v := 1) hx hb dX3_takeLine_30 (by decide) ?_
    refine lv_iadd hx hb dX3_takeLine_31 ?_
    refine xv_int (y := nI (p0 + 1)) (nI_1 p0) ?_
    have hPc := hP.sub (ws' := [(tx, .inr (3, [.ref t0, .int (nI len)])), (t0, .inl (cI, 96, .inl lt))]) [0, 1] rfl
    refine vp_callSi (va_Run.run (va_runV (As := [.int (nI (p0 + 1))]) (rest := [.ref (la 2)]) ⟨hx, hb, hml, hown, hts⟩ (g_X3_kindAt l D cI cL cZ cC ad av tx t0 len lt (p0 + 1) (by first | assumption | decide +kernel) (by omega)) (cwV 1 hts gX3_takeLine_X3_kindAt rfl rfl rfl (by decide +kernel) ⟨Nat.le_of_ble_eq_true rfl, Nat.le_of_ble_eq_true rfl⟩) ⟨sPc_bl, va_recv hK hPc (ci := 3) (q0 := 0) rfl rfl, sPc_use hPc hK (xKs_use hX9 hS (fun _ h => h.elim))⟩ rfl rfl hl.1 rfl (lv_room (Nat.le_of_ble_eq_true rfl)) dX3_takeLine_32 ⟨Nat.le_of_ble_eq_true rfl, Nat.le_of_ble_eq_true rfl⟩)) (fun r_27 er_27 => ?_)
    obtain rfl : (xKd lt len (p0 + 1) : Int32) = r_27 := Eq.symm er_27
    refine va_put (D := D) (ci := 0) (v := .int (xKd lt len (p0 + 1))) (ty := .int) (C := RX0) (T := TX0) (N := 4) hx hb hts hwX0 tyX0 tyX0_ok nmX0 hown hK hP hD hS 9 rfl rfl 0 (by decide) (hts (.fieldLink RX3 85 "WaitOrWalkOn$Line" "kind" "I") (by decide +kernel)) (fun _ h9 => h9) rfl (by decide +kernel) rfl rfl (Nat.le_of_ble_eq_true rfl) dX3_takeLine_35 (fun H locs hP hD hS => ?_)
    have hP : va_P D vwCl [(tx, .inr (3, [.ref t0, .int (nI len)])), (t0, .inl (cI, 96, .inl lt)), (rd, .inr (2, [.int (nI st), .int ho, .int pa, .int si, .int li, .int (nI 2), .ref r0, .ref r1])), (r0, .inl (cI, 7, .inl lg)), (r1, .inl (cL, 3, .inr (.inr (.inr (.inr (xL3 (la 0) (la 1) (la 2))))))), (la 0, .inr (0, [.int (ki 0), .int (ru 0), .int (ne 0), .ref (lk 0)])), (lk 0, .inl (cI, 12, .inl (ch 0))), (la 1, .inr (0, [.int (ki 1), .int (ru 1), .int (ne 1), .ref (lk 1)])), (lk 1, .inl (cI, 12, .inl (ch 1))), (la 2, .inr (0, [.int (xKd lt len (p0 + 1)), .int (ru 2), .int (ne 2), .ref (lk 2)])), (lk 2, .inl (cI, 12, .inl (ch 2)))] H := hP
    have hD : va_D A [(tx, .inr (3, [.ref t0, .int (nI len)])), (t0, .inl (cI, 96, .inl lt)), (rd, .inr (2, [.int (nI st), .int ho, .int pa, .int si, .int li, .int (nI 2), .ref r0, .ref r1])), (r0, .inl (cI, 7, .inl lg)), (r1, .inl (cL, 3, .inr (.inr (.inr (.inr (xL3 (la 0) (la 1) (la 2))))))), (la 0, .inr (0, [.int (ki 0), .int (ru 0), .int (ne 0), .ref (lk 0)])), (lk 0, .inl (cI, 12, .inl (ch 0))), (la 1, .inr (0, [.int (ki 1), .int (ru 1), .int (ne 1), .ref (lk 1)])), (lk 1, .inl (cI, 12, .inl (ch 1))), (la 2, .inr (0, [.int (xKd lt len (p0 + 1)), .int (ru 2), .int (ne 2), .ref (lk 2)])), (lk 2, .inl (cI, 12, .inl (ch 2)))] := hD
    refine lv_aload_n hx hb dX3_takeLine_38 rfl (lv_at hl 1 rfl) ?_
    refine lv_aload_n hx hb dX3_takeLine_39 rfl (lv_at hl 2 rfl) ?_
    refine lv_iload hx hb dX3_takeLine_40 (lv_at hl 0 rfl) ?_
    have hPc := hP.sub (ws' := [(tx, .inr (3, [.ref t0, .int (nI len)])), (t0, .inl (cI, 96, .inl lt))]) [0, 1] rfl
    refine vp_callSi (va_Run.run (va_runV (As := [.int (nI (xDp lt len p0))]) (rest := [.ref (la 2)]) ⟨hx, hb, hml, hown, hts⟩ (g_X3_digit l D cI cL cZ cC tx t0 len lt (xDp lt len p0) (by first | assumption | decide +kernel) (by omega)) (cwV 1 hts gX3_takeLine_X3_digit rfl rfl rfl (by decide +kernel) ⟨Nat.le_of_ble_eq_true rfl, Nat.le_of_ble_eq_true rfl⟩) ⟨xPc_bl, va_recv hK hPc (ci := 3) (q0 := 0) rfl rfl, xPc_use hPc hK⟩ rfl rfl hl.1 rfl (lv_room (Nat.le_of_ble_eq_true rfl)) dX3_takeLine_42 ⟨Nat.le_of_ble_eq_true rfl, Nat.le_of_ble_eq_true rfl⟩)) (fun r_28 er_28 => ?_)
    obtain rfl : (xDg lt len (xDp lt len p0) : Int32) = r_28 := Eq.symm er_28
    refine va_put (D := D) (ci := 0) (v := .int (xDg lt len (xDp lt len p0))) (ty := .int) (C := RX0) (T := TX0) (N := 4) hx hb hts hwX0 tyX0 tyX0_ok nmX0 hown hK hP hD hS 9 rfl rfl 1 (by decide) (hts (.fieldLink RX3 90 "WaitOrWalkOn$Line" "run" "I") (by decide +kernel)) (fun _ h9 => h9) rfl (by decide +kernel) rfl rfl (Nat.le_of_ble_eq_true rfl) dX3_takeLine_45 (fun H locs hP hD hS => ?_)
    have hP : va_P D vwCl [(tx, .inr (3, [.ref t0, .int (nI len)])), (t0, .inl (cI, 96, .inl lt)), (rd, .inr (2, [.int (nI st), .int ho, .int pa, .int si, .int li, .int (nI 2), .ref r0, .ref r1])), (r0, .inl (cI, 7, .inl lg)), (r1, .inl (cL, 3, .inr (.inr (.inr (.inr (xL3 (la 0) (la 1) (la 2))))))), (la 0, .inr (0, [.int (ki 0), .int (ru 0), .int (ne 0), .ref (lk 0)])), (lk 0, .inl (cI, 12, .inl (ch 0))), (la 1, .inr (0, [.int (ki 1), .int (ru 1), .int (ne 1), .ref (lk 1)])), (lk 1, .inl (cI, 12, .inl (ch 1))), (la 2, .inr (0, [.int (xKd lt len (p0 + 1)), .int (xDg lt len (xDp lt len p0)), .int (ne 2), .ref (lk 2)])), (lk 2, .inl (cI, 12, .inl (ch 2)))] H := hP
    have hD : va_D A [(tx, .inr (3, [.ref t0, .int (nI len)])), (t0, .inl (cI, 96, .inl lt)), (rd, .inr (2, [.int (nI st), .int ho, .int pa, .int si, .int li, .int (nI 2), .ref r0, .ref r1])), (r0, .inl (cI, 7, .inl lg)), (r1, .inl (cL, 3, .inr (.inr (.inr (.inr (xL3 (la 0) (la 1) (la 2))))))), (la 0, .inr (0, [.int (ki 0), .int (ru 0), .int (ne 0), .ref (lk 0)])), (lk 0, .inl (cI, 12, .inl (ch 0))), (la 1, .inr (0, [.int (ki 1), .int (ru 1), .int (ne 1), .ref (lk 1)])), (lk 1, .inl (cI, 12, .inl (ch 1))), (la 2, .inr (0, [.int (xKd lt len (p0 + 1)), .int (xDg lt len (xDp lt len p0)), .int (ne 2), .ref (lk 2)])), (lk 2, .inl (cI, 12, .inl (ch 2)))] := hD
    refine lv_aload_n hx hb dX3_takeLine_48 rfl (lv_at hl 1 rfl) ?_
    refine lv_aload_n hx hb dX3_takeLine_49 rfl (lv_at hl 2 rfl) ?_
    refine lv_iload hx hb dX3_takeLine_50 (lv_at hl 0 rfl) ?_
    refine lv_iconst (v := 1) hx hb dX3_takeLine_52 (by decide) ?_
    refine lv_iadd hx hb dX3_takeLine_53 ?_
    refine xv_int (y := nI (xDp lt len p0 + 1)) (nI_1 _) ?_
    have hPc := hP.sub (ws' := [(tx, .inr (3, [.ref t0, .int (nI len)])), (t0, .inl (cI, 96, .inl lt))]) [0, 1] rfl
    refine vp_callSi (va_Run.run (va_runV (As := [.int (nI (xDp lt len p0 + 1))]) (rest := [.ref (la 2)]) ⟨hx, hb, hml, hown, hts⟩ (g_X3_digit l D cI cL cZ cC tx t0 len lt (xDp lt len p0 + 1) (by first | assumption | decide +kernel) (by omega)) (cwV 1 hts gX3_takeLine_X3_digit rfl rfl rfl (by decide +kernel) ⟨Nat.le_of_ble_eq_true rfl, Nat.le_of_ble_eq_true rfl⟩) ⟨xPc_bl, va_recv hK hPc (ci := 3) (q0 := 0) rfl rfl, xPc_use hPc hK⟩ rfl rfl hl.1 rfl (lv_room (Nat.le_of_ble_eq_true rfl)) dX3_takeLine_54 ⟨Nat.le_of_ble_eq_true rfl, Nat.le_of_ble_eq_true rfl⟩)) (fun r_29 er_29 => ?_)
    obtain rfl : (xDg lt len (xDp lt len p0 + 1) : Int32) = r_29 := Eq.symm er_29
    refine va_put (D := D) (ci := 0) (v := .int (xDg lt len (xDp lt len p0 + 1))) (ty := .int) (C := RX0) (T := TX0) (N := 4) hx hb hts hwX0 tyX0 tyX0_ok nmX0 hown hK hP hD hS 9 rfl rfl 2 (by decide) (hts (.fieldLink RX3 93 "WaitOrWalkOn$Line" "never" "I") (by decide +kernel)) (fun _ h9 => h9) rfl (by decide +kernel) rfl rfl (Nat.le_of_ble_eq_true rfl) dX3_takeLine_57 (fun H locs hP hD hS => ?_)
    have hP : va_P D vwCl [(tx, .inr (3, [.ref t0, .int (nI len)])), (t0, .inl (cI, 96, .inl lt)), (rd, .inr (2, [.int (nI st), .int ho, .int pa, .int si, .int li, .int (nI 2), .ref r0, .ref r1])), (r0, .inl (cI, 7, .inl lg)), (r1, .inl (cL, 3, .inr (.inr (.inr (.inr (xL3 (la 0) (la 1) (la 2))))))), (la 0, .inr (0, [.int (ki 0), .int (ru 0), .int (ne 0), .ref (lk 0)])), (lk 0, .inl (cI, 12, .inl (ch 0))), (la 1, .inr (0, [.int (ki 1), .int (ru 1), .int (ne 1), .ref (lk 1)])), (lk 1, .inl (cI, 12, .inl (ch 1))), (la 2, .inr (0, [.int (xKd lt len (p0 + 1)), .int (xDg lt len (xDp lt len p0)), .int (xDg lt len (xDp lt len p0 + 1)), .ref (lk 2)])), (lk 2, .inl (cI, 12, .inl (ch 2)))] H := hP
    have hD : va_D A [(tx, .inr (3, [.ref t0, .int (nI len)])), (t0, .inl (cI, 96, .inl lt)), (rd, .inr (2, [.int (nI st), .int ho, .int pa, .int si, .int li, .int (nI 2), .ref r0, .ref r1])), (r0, .inl (cI, 7, .inl lg)), (r1, .inl (cL, 3, .inr (.inr (.inr (.inr (xL3 (la 0) (la 1) (la 2))))))), (la 0, .inr (0, [.int (ki 0), .int (ru 0), .int (ne 0), .ref (lk 0)])), (lk 0, .inl (cI, 12, .inl (ch 0))), (la 1, .inr (0, [.int (ki 1), .int (ru 1), .int (ne 1), .ref (lk 1)])), (lk 1, .inl (cI, 12, .inl (ch 1))), (la 2, .inr (0, [.int (xKd lt len (p0 + 1)), .int (xDg lt len (xDp lt len p0)), .int (xDg lt len (xDp lt len p0 + 1)), .ref (lk 2)])), (lk 2, .inl (cI, 12, .inl (ch 2)))] := hD
    refine lv_aload_n hx hb dX3_takeLine_60 rfl (lv_at hl 2 rfl) ?_
    refine lv_iload_n hx hb dX3_takeLine_61 rfl (lv_at hl 4 rfl) ?_
    have hPc := hP.sub (ws' := [(tx, .inr (3, [.ref t0, .int (nI len)])), (t0, .inl (cI, 96, .inl lt))]) [0, 1] rfl
    refine vp_callSi (va_Run.run (va_runV (As := [.int (nI p0)]) (rest := []) ⟨hx, hb, hml, hown, hts⟩ (g_X3_digitsEnd l D cI cL cZ cC tx t0 len lt p0 (by first | assumption | decide +kernel) (by omega)) (cwV 1 hts gX3_takeLine_X3_digitsEnd rfl rfl rfl (by decide +kernel) ⟨Nat.le_of_ble_eq_true rfl, Nat.le_of_ble_eq_true rfl⟩) ⟨xPc_bl, va_recv hK hPc (ci := 3) (q0 := 0) rfl rfl, xPc_use hPc hK⟩ rfl rfl hl.1 rfl (lv_room (Nat.le_of_ble_eq_true rfl)) dX3_takeLine_62 ⟨Nat.le_of_ble_eq_true rfl, Nat.le_of_ble_eq_true rfl⟩)) (fun r_30 er_30 => ?_)
    obtain rfl : (nI (xDe lt len p0) : Int32) = r_30 := Eq.symm er_30
    refine lv_iload hx hb dX3_takeLine_65 (lv_at hl 0 rfl) ?_
    refine lv_isub hx hb dX3_takeLine_67 ?_
    refine lv_iconst (v := 2) hx hb dX3_takeLine_68 (by decide) ?_
    refine lv_isub hx hb dX3_takeLine_69 ?_
    refine lv_istore (lv' := [(5, .int (((nI (xDe lt len p0)) - (nI (xDp lt len p0))) - 2)), (4, .int (nI (xDp lt len p0))), (3, .ref (la 2)), (0, .ref tx), (1, .ref rd), (2, .int (nI p0))]) hx hb dX3_takeLine_70 hl (by decide) rfl (fun ls hl => ?_)
    refine lv_iconst (v := 0) hx hb dX3_takeLine_72 (by decide) ?_
    refine lv_istore (lv' := [(6, .int 0), (5, .int (((nI (xDe lt len p0)) - (nI (xDp lt len p0))) - 2)), (4, .int (nI (xDp lt len p0))), (3, .ref (la 2)), (0, .ref tx), (1, .ref rd), (2, .int (nI p0))]) hx hb dX3_takeLine_73 hl (by decide) rfl (fun ls hl => ?_)
    refine xl_loopH (σ := Nat × (Nat → Int32)) (fun n q H locs ls => lv_has ls 7 [(6, .int (nI q.1)), (5, .int (((nI (xDe lt len p0)) - (nI (xDp lt len p0))) - 2)), (4, .int (nI (xDp lt len p0))), (3, .ref (la 2)), (0, .ref tx), (1, .ref rd), (2, .int (nI p0))] ∧ va_P D vwCl [(tx, .inr (3, [.ref t0, .int (nI len)])), (t0, .inl (cI, 96, .inl lt)), (rd, .inr (2, [.int (nI st), .int ho, .int pa, .int si, .int li, .int (nI 2), .ref r0, .ref r1])), (r0, .inl (cI, 7, .inl lg)), (r1, .inl (cL, 3, .inr (.inr (.inr (.inr (xL3 (la 0) (la 1) (la 2))))))), (la 0, .inr (0, [.int (ki 0), .int (ru 0), .int (ne 0), .ref (lk 0)])), (lk 0, .inl (cI, 12, .inl (ch 0))), (la 1, .inr (0, [.int (ki 1), .int (ru 1), .int (ne 1), .ref (lk 1)])), (lk 1, .inl (cI, 12, .inl (ch 1))), (la 2, .inr (0, [.int (xKd lt len (p0 + 1)), .int (xDg lt len (xDp lt len p0)), .int (xDg lt len (xDp lt len p0 + 1)), .ref (lk 2)])), (lk 2, .inl (cI, 12, .inl q.2))] H ∧ va_D A [(tx, .inr (3, [.ref t0, .int (nI len)])), (t0, .inl (cI, 96, .inl lt)), (rd, .inr (2, [.int (nI st), .int ho, .int pa, .int si, .int li, .int (nI 2), .ref r0, .ref r1])), (r0, .inl (cI, 7, .inl lg)), (r1, .inl (cL, 3, .inr (.inr (.inr (.inr (xL3 (la 0) (la 1) (la 2))))))), (la 0, .inr (0, [.int (ki 0), .int (ru 0), .int (ne 0), .ref (lk 0)])), (lk 0, .inl (cI, 12, .inl (ch 0))), (la 1, .inr (0, [.int (ki 1), .int (ru 1), .int (ne 1), .ref (lk 1)])), (lk 1, .inl (cI, 12, .inl (ch 1))), (la 2, .inr (0, [.int (xKd lt len (p0 + 1)), .int (xDg lt len (xDp lt len p0)), .int (xDg lt len (xDp lt len p0 + 1)), .ref (lk 2)])), (lk 2, .inl (cI, 12, .inl q.2))] ∧ va_S A s.heap H locs ∧ (12 - q.1 < n) ∧ (q.1 ≤ 12) ∧ (q.2 = xCp (xCf lt len p0) (ch 2) q.1)) (13) (0, ch 2) ⟨lv_sub hl [0, 1, 2, 3, 4, 5, 6] rfl, hP.sub [0, 1, 2, 3, 4, 5, 6, 7, 8, 9, 10] rfl, hD.sub [0, 1, 2, 3, 4, 5, 6, 7, 8, 9, 10] (by decide) rfl, hS, by (try dsimp only); exact ⟨by omega, by omega, (xCp_0 _ _).symm⟩⟩ (fun q H lc ls h => absurd h.2.2.2.2.1 (Nat.not_lt_zero _)) ?_
    intro n_75 q_75 H locs ls ih_75 hI_75
    obtain ⟨hl, hP, hD, hS, hI_75⟩ := hI_75
    obtain ⟨t1, f1⟩ := q_75
    obtain ⟨h1, h2, h3⟩ := hI_75
    try dsimp only at hl hP hD h1 h2 h3
    refine lv_iload hx hb dX3_takeLine_75 (lv_at hl 0 rfl) ?_
    refine lv_bipush (v := 12) hx hb dX3_takeLine_77 (by decide) ?_
    refine lv_icmp_ge (tgt := 117) hx hb dX3_takeLine_79 (by decide) (fun c_31 => ?_) (fun c_31 => ?_)
    · have w12 : t1 = 12 := by have w := mt (nI_ltI (a := t1) (b := 12) (by omega) (by omega)).mpr (Int32.not_lt.mpr c_31); omega
      rw [w12] at h3
      rw [h3] at hP hD
      have hP : va_P D vwCl [(tx, .inr (3, [.ref t0, .int (nI len)])), (t0, .inl (cI, 96, .inl lt)), (rd, .inr (2, [.int (nI st), .int ho, .int pa, .int si, .int li, .int (nI 2), .ref r0, .ref r1])), (r0, .inl (cI, 7, .inl lg)), (r1, .inl (cL, 3, .inr (.inr (.inr (.inr (xL3 (la 0) (la 1) (la 2))))))), (la 0, .inr (0, [.int (ki 0), .int (ru 0), .int (ne 0), .ref (lk 0)])), (lk 0, .inl (cI, 12, .inl (ch 0))), (la 1, .inr (0, [.int (ki 1), .int (ru 1), .int (ne 1), .ref (lk 1)])), (lk 1, .inl (cI, 12, .inl (ch 1))), (la 2, .inr (0, [.int (xKd lt len (p0 + 1)), .int (xDg lt len (xDp lt len p0)), .int (xDg lt len (xDp lt len p0 + 1)), .ref (lk 2)])), (lk 2, .inl (cI, 12, .inl (xCp (xCf lt len p0) (ch 2) 12)))] H := hP
      have hD : va_D A [(tx, .inr (3, [.ref t0, .int (nI len)])), (t0, .inl (cI, 96, .inl lt)), (rd, .inr (2, [.int (nI st), .int ho, .int pa, .int si, .int li, .int (nI 2), .ref r0, .ref r1])), (r0, .inl (cI, 7, .inl lg)), (r1, .inl (cL, 3, .inr (.inr (.inr (.inr (xL3 (la 0) (la 1) (la 2))))))), (la 0, .inr (0, [.int (ki 0), .int (ru 0), .int (ne 0), .ref (lk 0)])), (lk 0, .inl (cI, 12, .inl (ch 0))), (la 1, .inr (0, [.int (ki 1), .int (ru 1), .int (ne 1), .ref (lk 1)])), (lk 1, .inl (cI, 12, .inl (ch 1))), (la 2, .inr (0, [.int (xKd lt len (p0 + 1)), .int (xDg lt len (xDp lt len p0)), .int (xDg lt len (xDp lt len p0 + 1)), .ref (lk 2)])), (lk 2, .inl (cI, 12, .inl (xCp (xCf lt len p0) (ch 2) 12)))] := hD
      refine lv_aload_n hx hb dX3_takeLine_117 rfl (lv_at hl 5 rfl) ?_
      refine lv_dup hx hb dX3_takeLine_118 rfl ?_
      refine va_get (D := D) (ci := 2) (v := .int (nI 2)) (C := RX2) (T := TX2) (N := 8) hx hb hts hwX2 hown hK hP 2 rfl rfl 5 (by decide) (hts (.fieldLink RX3 78 "WaitOrWalkOn$Road" "lineCount" "I") (by decide +kernel)) (fun _ h9 => h9) rfl dX3_takeLine_119 ?_
      refine lv_iconst (v := 1) hx hb dX3_takeLine_122 (by decide) ?_
      refine lv_iadd hx hb dX3_takeLine_123 ?_
      refine xv_int (y := nI (2 + 1)) (nI_1 2) ?_
      refine va_put (D := D) (ci := 2) (v := .int (nI (2 + 1))) (ty := .int) (C := RX2) (T := TX2) (N := 8) hx hb hts hwX2 tyX2 tyX2_ok nmX2 hown hK hP hD hS 2 rfl rfl 5 (by decide) (hts (.fieldLink RX3 78 "WaitOrWalkOn$Road" "lineCount" "I") (by decide +kernel)) (fun _ h9 => h9) rfl (by decide +kernel) rfl rfl (Nat.le_of_ble_eq_true rfl) dX3_takeLine_124 (fun H locs hP hD hS => ?_)
      have hP : va_P D vwCl [(tx, .inr (3, [.ref t0, .int (nI len)])), (t0, .inl (cI, 96, .inl lt)), (rd, .inr (2, [.int (nI st), .int ho, .int pa, .int si, .int li, .int (nI (2 + 1)), .ref r0, .ref r1])), (r0, .inl (cI, 7, .inl lg)), (r1, .inl (cL, 3, .inr (.inr (.inr (.inr (xL3 (la 0) (la 1) (la 2))))))), (la 0, .inr (0, [.int (ki 0), .int (ru 0), .int (ne 0), .ref (lk 0)])), (lk 0, .inl (cI, 12, .inl (ch 0))), (la 1, .inr (0, [.int (ki 1), .int (ru 1), .int (ne 1), .ref (lk 1)])), (lk 1, .inl (cI, 12, .inl (ch 1))), (la 2, .inr (0, [.int (xKd lt len (p0 + 1)), .int (xDg lt len (xDp lt len p0)), .int (xDg lt len (xDp lt len p0 + 1)), .ref (lk 2)])), (lk 2, .inl (cI, 12, .inl (xCp (xCf lt len p0) (ch 2) 12)))] H := hP
      have hD : va_D A [(tx, .inr (3, [.ref t0, .int (nI len)])), (t0, .inl (cI, 96, .inl lt)), (rd, .inr (2, [.int (nI st), .int ho, .int pa, .int si, .int li, .int (nI (2 + 1)), .ref r0, .ref r1])), (r0, .inl (cI, 7, .inl lg)), (r1, .inl (cL, 3, .inr (.inr (.inr (.inr (xL3 (la 0) (la 1) (la 2))))))), (la 0, .inr (0, [.int (ki 0), .int (ru 0), .int (ne 0), .ref (lk 0)])), (lk 0, .inl (cI, 12, .inl (ch 0))), (la 1, .inr (0, [.int (ki 1), .int (ru 1), .int (ne 1), .ref (lk 1)])), (lk 1, .inl (cI, 12, .inl (ch 1))), (la 2, .inr (0, [.int (xKd lt len (p0 + 1)), .int (xDg lt len (xDp lt len p0)), .int (xDg lt len (xDp lt len p0 + 1)), .ref (lk 2)])), (lk 2, .inl (cI, 12, .inl (xCp (xCf lt len p0) (ch 2) 12)))] := hD
      refine lv_aload_n hx hb dX3_takeLine_127 rfl (lv_at hl 3 rfl) ?_
      refine va_get (D := D) (ci := 0) (v := .int (xDg lt len (xDp lt len p0))) (C := RX0) (T := TX0) (N := 4) hx hb hts hwX0 hown hK hP 9 rfl rfl 1 (by decide) (hts (.fieldLink RX3 90 "WaitOrWalkOn$Line" "run" "I") (by decide +kernel)) (fun _ h9 => h9) rfl dX3_takeLine_128 ?_
      refine lv_if_le (tgt := 145) hx hb dX3_takeLine_131 (by decide) (fun c_32 => ?_) (fun c_32 => ?_)
      · refine lv_iconst (v := 0) hx hb dX3_takeLine_145 (by decide) ?_
        have hP9 := hP.sub (ws' := [(tx, .inr (3, [.ref t0, .int (nI len)])), (t0, .inl (cI, 96, .inl lt)), (rd, .inr (2, [.int (nI st), .int ho, .int pa, .int si, .int li, .int (nI (2 + 1)), .ref r0, .ref r1])), (r0, .inl (cI, 7, .inl lg)), (r1, .inl (cL, 3, .inr (.inr (.inr (.inr (xL3 (la 0) (la 1) (la 2))))))), (la 0, .inr (0, [.int (ki 0), .int (ru 0), .int (ne 0), .ref (lk 0)])), (lk 0, .inl (cI, 12, .inl (ch 0))), (la 1, .inr (0, [.int (ki 1), .int (ru 1), .int (ne 1), .ref (lk 1)])), (lk 1, .inl (cI, 12, .inl (ch 1))), (la 2, .inr (0, [.int (xKd lt len (p0 + 1)), .int (xDg lt len (xDp lt len p0)), .int (xDg lt len (xDp lt len p0 + 1)), .ref (lk 2)])), (lk 2, .inl (cI, 12, .inl (xCp (xCf lt len p0) (ch 2) 12)))]) [0, 1, 2, 3, 4, 5, 6, 7, 8, 9, 10] rfl
        have hD9 := hD.sub (ws' := [(tx, .inr (3, [.ref t0, .int (nI len)])), (t0, .inl (cI, 96, .inl lt)), (rd, .inr (2, [.int (nI st), .int ho, .int pa, .int si, .int li, .int (nI (2 + 1)), .ref r0, .ref r1])), (r0, .inl (cI, 7, .inl lg)), (r1, .inl (cL, 3, .inr (.inr (.inr (.inr (xL3 (la 0) (la 1) (la 2))))))), (la 0, .inr (0, [.int (ki 0), .int (ru 0), .int (ne 0), .ref (lk 0)])), (lk 0, .inl (cI, 12, .inl (ch 0))), (la 1, .inr (0, [.int (ki 1), .int (ru 1), .int (ne 1), .ref (lk 1)])), (lk 1, .inl (cI, 12, .inl (ch 1))), (la 2, .inr (0, [.int (xKd lt len (p0 + 1)), .int (xDg lt len (xDp lt len p0)), .int (xDg lt len (xDp lt len p0 + 1)), .ref (lk 2)])), (lk 2, .inl (cI, 12, .inl (xCp (xCf lt len p0) (ch 2) 12)))]) [0, 1, 2, 3, 4, 5, 6, 7, 8, 9, 10] (by decide) rfl
        have hE9 : ([(tx, .inr (3, [.ref t0, .int (nI len)])), (t0, .inl (cI, 96, .inl lt)), (rd, .inr (2, [.int (nI st), .int ho, .int pa, .int si, .int li, .int (nI (2 + 1)), .ref r0, .ref r1])), (r0, .inl (cI, 7, .inl lg)), (r1, .inl (cL, 3, .inr (.inr (.inr (.inr (xL3 (la 0) (la 1) (la 2))))))), (la 0, .inr (0, [.int (ki 0), .int (ru 0), .int (ne 0), .ref (lk 0)])), (lk 0, .inl (cI, 12, .inl (ch 0))), (la 1, .inr (0, [.int (ki 1), .int (ru 1), .int (ne 1), .ref (lk 1)])), (lk 1, .inl (cI, 12, .inl (ch 1))), (la 2, .inr (0, [.int (xKd lt len (p0 + 1)), .int (xDg lt len (xDp lt len p0)), .int (xDg lt len (xDp lt len p0 + 1)), .ref (lk 2)])), (lk 2, .inl (cI, 12, .inl (xCp (xCf lt len p0) (ch 2) 12)))] : va_W) = [(tx, .inr (3, [.ref t0, .int (nI len)])), (t0, .inl (cI, 96, .inl lt)), (rd, .inr (2, [.int (nI (((xTL lt len p0 (st, 2, ho, pa, si, li, lg, ki, ru, ne, ch)).1).1)), .int (((xTL lt len p0 (st, 2, ho, pa, si, li, lg, ki, ru, ne, ch)).1).2.2.1), .int (((xTL lt len p0 (st, 2, ho, pa, si, li, lg, ki, ru, ne, ch)).1).2.2.2.1), .int (((xTL lt len p0 (st, 2, ho, pa, si, li, lg, ki, ru, ne, ch)).1).2.2.2.2.1), .int (((xTL lt len p0 (st, 2, ho, pa, si, li, lg, ki, ru, ne, ch)).1).2.2.2.2.2.1), .int (nI (((xTL lt len p0 (st, 2, ho, pa, si, li, lg, ki, ru, ne, ch)).1).2.1)), .ref r0, .ref r1])), (r0, .inl (cI, 7, .inl (((xTL lt len p0 (st, 2, ho, pa, si, li, lg, ki, ru, ne, ch)).1).2.2.2.2.2.2.1))), (r1, .inl (cL, 3, .inr (.inr (.inr (.inr (xL3 (la 0) (la 1) (la 2))))))), (la 0, .inr (0, [.int ((((xTL lt len p0 (st, 2, ho, pa, si, li, lg, ki, ru, ne, ch)).1).2.2.2.2.2.2.2.1) 0), .int ((((xTL lt len p0 (st, 2, ho, pa, si, li, lg, ki, ru, ne, ch)).1).2.2.2.2.2.2.2.2.1) 0), .int ((((xTL lt len p0 (st, 2, ho, pa, si, li, lg, ki, ru, ne, ch)).1).2.2.2.2.2.2.2.2.2.1) 0), .ref (lk 0)])), (lk 0, .inl (cI, 12, .inl ((((xTL lt len p0 (st, 2, ho, pa, si, li, lg, ki, ru, ne, ch)).1).2.2.2.2.2.2.2.2.2.2) 0))), (la 1, .inr (0, [.int ((((xTL lt len p0 (st, 2, ho, pa, si, li, lg, ki, ru, ne, ch)).1).2.2.2.2.2.2.2.1) 1), .int ((((xTL lt len p0 (st, 2, ho, pa, si, li, lg, ki, ru, ne, ch)).1).2.2.2.2.2.2.2.2.1) 1), .int ((((xTL lt len p0 (st, 2, ho, pa, si, li, lg, ki, ru, ne, ch)).1).2.2.2.2.2.2.2.2.2.1) 1), .ref (lk 1)])), (lk 1, .inl (cI, 12, .inl ((((xTL lt len p0 (st, 2, ho, pa, si, li, lg, ki, ru, ne, ch)).1).2.2.2.2.2.2.2.2.2.2) 1))), (la 2, .inr (0, [.int ((((xTL lt len p0 (st, 2, ho, pa, si, li, lg, ki, ru, ne, ch)).1).2.2.2.2.2.2.2.1) 2), .int ((((xTL lt len p0 (st, 2, ho, pa, si, li, lg, ki, ru, ne, ch)).1).2.2.2.2.2.2.2.2.1) 2), .int ((((xTL lt len p0 (st, 2, ho, pa, si, li, lg, ki, ru, ne, ch)).1).2.2.2.2.2.2.2.2.2.1) 2), .ref (lk 2)])), (lk 2, .inl (cI, 12, .inl ((((xTL lt len p0 (st, 2, ho, pa, si, li, lg, ki, ru, ne, ch)).1).2.2.2.2.2.2.2.2.2.2) 2)))] := rfl
        exact W.zret (v := 0) (ty := .boolean) hx hb hr (by decide +kernel) (fun t ht hW => ⟨⟨_, (), rfl, (by show _ = (if 0 < xDg lt len (xDp lt len p0) then (if 0 < xSm (xCp (xCf lt len p0) (ch 2) 12) 12 + xDg lt len (xDp lt len p0 + 1) then 1 else 0) else 0); rw [if_neg (Int32.not_lt.mpr c_32)]), by rw [ht]; exact hE9 ▸ hP9, hE9 ▸ hD9⟩, hS.F ht⟩) hS.2.2 dX3_takeLine_146
      · refine lv_aload_n hx hb dX3_takeLine_134 rfl (lv_at hl 3 rfl) ?_
        have hPc := hP.sub (ws' := [((la 2), .inr (0, [.int (xKd lt len (p0 + 1)), .int (xDg lt len (xDp lt len p0)), .int (xDg lt len (xDp lt len p0 + 1)), .ref (lk 2)])), ((lk 2), .inl (cI, 12, .inl (xCp (xCf lt len p0) (ch 2) 12)))]) [9, 10] rfl
        refine vp_callSi (va_Run.run (va_runV (As := []) (rest := []) ⟨hx, hb, hml, hown, hts⟩ (g_X0_total l D cI cL cZ cC (la 2) (lk 2) (xKd lt len (p0 + 1)) (xDg lt len (xDp lt len p0)) (xDg lt len (xDp lt len p0 + 1)) (xCp (xCf lt len p0) (ch 2) 12) ) (cwV 0 hts gX3_takeLine_X0_total rfl rfl rfl (by decide +kernel) ⟨Nat.le_of_ble_eq_true rfl, Nat.le_of_ble_eq_true rfl⟩) ⟨xPc_bl, va_recv hK hPc (ci := 0) (q0 := 0) rfl rfl, xPc_use hPc hK⟩ rfl rfl hl.1 rfl (lv_room (Nat.le_of_ble_eq_true rfl)) dX3_takeLine_135 ⟨Nat.le_of_ble_eq_true rfl, Nat.le_of_ble_eq_true rfl⟩)) (fun r_33 er_33 => ?_)
        obtain rfl : (xSm (xCp (xCf lt len p0) (ch 2) 12) 12 + (xDg lt len (xDp lt len p0 + 1)) : Int32) = r_33 := Eq.symm er_33
        refine lv_if_le (tgt := 145) hx hb dX3_takeLine_138 (by decide) (fun c_34 => ?_) (fun c_34 => ?_)
        · refine lv_iconst (v := 0) hx hb dX3_takeLine_145 (by decide) ?_
          have hP9 := hP.sub (ws' := [(tx, .inr (3, [.ref t0, .int (nI len)])), (t0, .inl (cI, 96, .inl lt)), (rd, .inr (2, [.int (nI st), .int ho, .int pa, .int si, .int li, .int (nI (2 + 1)), .ref r0, .ref r1])), (r0, .inl (cI, 7, .inl lg)), (r1, .inl (cL, 3, .inr (.inr (.inr (.inr (xL3 (la 0) (la 1) (la 2))))))), (la 0, .inr (0, [.int (ki 0), .int (ru 0), .int (ne 0), .ref (lk 0)])), (lk 0, .inl (cI, 12, .inl (ch 0))), (la 1, .inr (0, [.int (ki 1), .int (ru 1), .int (ne 1), .ref (lk 1)])), (lk 1, .inl (cI, 12, .inl (ch 1))), (la 2, .inr (0, [.int (xKd lt len (p0 + 1)), .int (xDg lt len (xDp lt len p0)), .int (xDg lt len (xDp lt len p0 + 1)), .ref (lk 2)])), (lk 2, .inl (cI, 12, .inl (xCp (xCf lt len p0) (ch 2) 12)))]) [0, 1, 2, 3, 4, 5, 6, 7, 8, 9, 10] rfl
          have hD9 := hD.sub (ws' := [(tx, .inr (3, [.ref t0, .int (nI len)])), (t0, .inl (cI, 96, .inl lt)), (rd, .inr (2, [.int (nI st), .int ho, .int pa, .int si, .int li, .int (nI (2 + 1)), .ref r0, .ref r1])), (r0, .inl (cI, 7, .inl lg)), (r1, .inl (cL, 3, .inr (.inr (.inr (.inr (xL3 (la 0) (la 1) (la 2))))))), (la 0, .inr (0, [.int (ki 0), .int (ru 0), .int (ne 0), .ref (lk 0)])), (lk 0, .inl (cI, 12, .inl (ch 0))), (la 1, .inr (0, [.int (ki 1), .int (ru 1), .int (ne 1), .ref (lk 1)])), (lk 1, .inl (cI, 12, .inl (ch 1))), (la 2, .inr (0, [.int (xKd lt len (p0 + 1)), .int (xDg lt len (xDp lt len p0)), .int (xDg lt len (xDp lt len p0 + 1)), .ref (lk 2)])), (lk 2, .inl (cI, 12, .inl (xCp (xCf lt len p0) (ch 2) 12)))]) [0, 1, 2, 3, 4, 5, 6, 7, 8, 9, 10] (by decide) rfl
          have hE9 : ([(tx, .inr (3, [.ref t0, .int (nI len)])), (t0, .inl (cI, 96, .inl lt)), (rd, .inr (2, [.int (nI st), .int ho, .int pa, .int si, .int li, .int (nI (2 + 1)), .ref r0, .ref r1])), (r0, .inl (cI, 7, .inl lg)), (r1, .inl (cL, 3, .inr (.inr (.inr (.inr (xL3 (la 0) (la 1) (la 2))))))), (la 0, .inr (0, [.int (ki 0), .int (ru 0), .int (ne 0), .ref (lk 0)])), (lk 0, .inl (cI, 12, .inl (ch 0))), (la 1, .inr (0, [.int (ki 1), .int (ru 1), .int (ne 1), .ref (lk 1)])), (lk 1, .inl (cI, 12, .inl (ch 1))), (la 2, .inr (0, [.int (xKd lt len (p0 + 1)), .int (xDg lt len (xDp lt len p0)), .int (xDg lt len (xDp lt len p0 + 1)), .ref (lk 2)])), (lk 2, .inl (cI, 12, .inl (xCp (xCf lt len p0) (ch 2) 12)))] : va_W) = [(tx, .inr (3, [.ref t0, .int (nI len)])), (t0, .inl (cI, 96, .inl lt)), (rd, .inr (2, [.int (nI (((xTL lt len p0 (st, 2, ho, pa, si, li, lg, ki, ru, ne, ch)).1).1)), .int (((xTL lt len p0 (st, 2, ho, pa, si, li, lg, ki, ru, ne, ch)).1).2.2.1), .int (((xTL lt len p0 (st, 2, ho, pa, si, li, lg, ki, ru, ne, ch)).1).2.2.2.1), .int (((xTL lt len p0 (st, 2, ho, pa, si, li, lg, ki, ru, ne, ch)).1).2.2.2.2.1), .int (((xTL lt len p0 (st, 2, ho, pa, si, li, lg, ki, ru, ne, ch)).1).2.2.2.2.2.1), .int (nI (((xTL lt len p0 (st, 2, ho, pa, si, li, lg, ki, ru, ne, ch)).1).2.1)), .ref r0, .ref r1])), (r0, .inl (cI, 7, .inl (((xTL lt len p0 (st, 2, ho, pa, si, li, lg, ki, ru, ne, ch)).1).2.2.2.2.2.2.1))), (r1, .inl (cL, 3, .inr (.inr (.inr (.inr (xL3 (la 0) (la 1) (la 2))))))), (la 0, .inr (0, [.int ((((xTL lt len p0 (st, 2, ho, pa, si, li, lg, ki, ru, ne, ch)).1).2.2.2.2.2.2.2.1) 0), .int ((((xTL lt len p0 (st, 2, ho, pa, si, li, lg, ki, ru, ne, ch)).1).2.2.2.2.2.2.2.2.1) 0), .int ((((xTL lt len p0 (st, 2, ho, pa, si, li, lg, ki, ru, ne, ch)).1).2.2.2.2.2.2.2.2.2.1) 0), .ref (lk 0)])), (lk 0, .inl (cI, 12, .inl ((((xTL lt len p0 (st, 2, ho, pa, si, li, lg, ki, ru, ne, ch)).1).2.2.2.2.2.2.2.2.2.2) 0))), (la 1, .inr (0, [.int ((((xTL lt len p0 (st, 2, ho, pa, si, li, lg, ki, ru, ne, ch)).1).2.2.2.2.2.2.2.1) 1), .int ((((xTL lt len p0 (st, 2, ho, pa, si, li, lg, ki, ru, ne, ch)).1).2.2.2.2.2.2.2.2.1) 1), .int ((((xTL lt len p0 (st, 2, ho, pa, si, li, lg, ki, ru, ne, ch)).1).2.2.2.2.2.2.2.2.2.1) 1), .ref (lk 1)])), (lk 1, .inl (cI, 12, .inl ((((xTL lt len p0 (st, 2, ho, pa, si, li, lg, ki, ru, ne, ch)).1).2.2.2.2.2.2.2.2.2.2) 1))), (la 2, .inr (0, [.int ((((xTL lt len p0 (st, 2, ho, pa, si, li, lg, ki, ru, ne, ch)).1).2.2.2.2.2.2.2.1) 2), .int ((((xTL lt len p0 (st, 2, ho, pa, si, li, lg, ki, ru, ne, ch)).1).2.2.2.2.2.2.2.2.1) 2), .int ((((xTL lt len p0 (st, 2, ho, pa, si, li, lg, ki, ru, ne, ch)).1).2.2.2.2.2.2.2.2.2.1) 2), .ref (lk 2)])), (lk 2, .inl (cI, 12, .inl ((((xTL lt len p0 (st, 2, ho, pa, si, li, lg, ki, ru, ne, ch)).1).2.2.2.2.2.2.2.2.2.2) 2)))] := rfl
          exact W.zret (v := 0) (ty := .boolean) hx hb hr (by decide +kernel) (fun t ht hW => ⟨⟨_, (), rfl, (by show _ = (if 0 < xDg lt len (xDp lt len p0) then (if 0 < xSm (xCp (xCf lt len p0) (ch 2) 12) 12 + xDg lt len (xDp lt len p0 + 1) then 1 else 0) else 0); rw [if_pos (Int32.not_le.mp c_32), if_neg (Int32.not_lt.mpr c_34)]), by rw [ht]; exact hE9 ▸ hP9, hE9 ▸ hD9⟩, hS.F ht⟩) hS.2.2 dX3_takeLine_146
        · refine lv_iconst (v := 1) hx hb dX3_takeLine_141 (by decide) ?_
          refine lv_goto (tgt := 146) hx hb dX3_takeLine_142 (by decide) ?_
          have hP9 := hP.sub (ws' := [(tx, .inr (3, [.ref t0, .int (nI len)])), (t0, .inl (cI, 96, .inl lt)), (rd, .inr (2, [.int (nI st), .int ho, .int pa, .int si, .int li, .int (nI (2 + 1)), .ref r0, .ref r1])), (r0, .inl (cI, 7, .inl lg)), (r1, .inl (cL, 3, .inr (.inr (.inr (.inr (xL3 (la 0) (la 1) (la 2))))))), (la 0, .inr (0, [.int (ki 0), .int (ru 0), .int (ne 0), .ref (lk 0)])), (lk 0, .inl (cI, 12, .inl (ch 0))), (la 1, .inr (0, [.int (ki 1), .int (ru 1), .int (ne 1), .ref (lk 1)])), (lk 1, .inl (cI, 12, .inl (ch 1))), (la 2, .inr (0, [.int (xKd lt len (p0 + 1)), .int (xDg lt len (xDp lt len p0)), .int (xDg lt len (xDp lt len p0 + 1)), .ref (lk 2)])), (lk 2, .inl (cI, 12, .inl (xCp (xCf lt len p0) (ch 2) 12)))]) [0, 1, 2, 3, 4, 5, 6, 7, 8, 9, 10] rfl
          have hD9 := hD.sub (ws' := [(tx, .inr (3, [.ref t0, .int (nI len)])), (t0, .inl (cI, 96, .inl lt)), (rd, .inr (2, [.int (nI st), .int ho, .int pa, .int si, .int li, .int (nI (2 + 1)), .ref r0, .ref r1])), (r0, .inl (cI, 7, .inl lg)), (r1, .inl (cL, 3, .inr (.inr (.inr (.inr (xL3 (la 0) (la 1) (la 2))))))), (la 0, .inr (0, [.int (ki 0), .int (ru 0), .int (ne 0), .ref (lk 0)])), (lk 0, .inl (cI, 12, .inl (ch 0))), (la 1, .inr (0, [.int (ki 1), .int (ru 1), .int (ne 1), .ref (lk 1)])), (lk 1, .inl (cI, 12, .inl (ch 1))), (la 2, .inr (0, [.int (xKd lt len (p0 + 1)), .int (xDg lt len (xDp lt len p0)), .int (xDg lt len (xDp lt len p0 + 1)), .ref (lk 2)])), (lk 2, .inl (cI, 12, .inl (xCp (xCf lt len p0) (ch 2) 12)))]) [0, 1, 2, 3, 4, 5, 6, 7, 8, 9, 10] (by decide) rfl
          have hE9 : ([(tx, .inr (3, [.ref t0, .int (nI len)])), (t0, .inl (cI, 96, .inl lt)), (rd, .inr (2, [.int (nI st), .int ho, .int pa, .int si, .int li, .int (nI (2 + 1)), .ref r0, .ref r1])), (r0, .inl (cI, 7, .inl lg)), (r1, .inl (cL, 3, .inr (.inr (.inr (.inr (xL3 (la 0) (la 1) (la 2))))))), (la 0, .inr (0, [.int (ki 0), .int (ru 0), .int (ne 0), .ref (lk 0)])), (lk 0, .inl (cI, 12, .inl (ch 0))), (la 1, .inr (0, [.int (ki 1), .int (ru 1), .int (ne 1), .ref (lk 1)])), (lk 1, .inl (cI, 12, .inl (ch 1))), (la 2, .inr (0, [.int (xKd lt len (p0 + 1)), .int (xDg lt len (xDp lt len p0)), .int (xDg lt len (xDp lt len p0 + 1)), .ref (lk 2)])), (lk 2, .inl (cI, 12, .inl (xCp (xCf lt len p0) (ch 2) 12)))] : va_W) = [(tx, .inr (3, [.ref t0, .int (nI len)])), (t0, .inl (cI, 96, .inl lt)), (rd, .inr (2, [.int (nI (((xTL lt len p0 (st, 2, ho, pa, si, li, lg, ki, ru, ne, ch)).1).1)), .int (((xTL lt len p0 (st, 2, ho, pa, si, li, lg, ki, ru, ne, ch)).1).2.2.1), .int (((xTL lt len p0 (st, 2, ho, pa, si, li, lg, ki, ru, ne, ch)).1).2.2.2.1), .int (((xTL lt len p0 (st, 2, ho, pa, si, li, lg, ki, ru, ne, ch)).1).2.2.2.2.1), .int (((xTL lt len p0 (st, 2, ho, pa, si, li, lg, ki, ru, ne, ch)).1).2.2.2.2.2.1), .int (nI (((xTL lt len p0 (st, 2, ho, pa, si, li, lg, ki, ru, ne, ch)).1).2.1)), .ref r0, .ref r1])), (r0, .inl (cI, 7, .inl (((xTL lt len p0 (st, 2, ho, pa, si, li, lg, ki, ru, ne, ch)).1).2.2.2.2.2.2.1))), (r1, .inl (cL, 3, .inr (.inr (.inr (.inr (xL3 (la 0) (la 1) (la 2))))))), (la 0, .inr (0, [.int ((((xTL lt len p0 (st, 2, ho, pa, si, li, lg, ki, ru, ne, ch)).1).2.2.2.2.2.2.2.1) 0), .int ((((xTL lt len p0 (st, 2, ho, pa, si, li, lg, ki, ru, ne, ch)).1).2.2.2.2.2.2.2.2.1) 0), .int ((((xTL lt len p0 (st, 2, ho, pa, si, li, lg, ki, ru, ne, ch)).1).2.2.2.2.2.2.2.2.2.1) 0), .ref (lk 0)])), (lk 0, .inl (cI, 12, .inl ((((xTL lt len p0 (st, 2, ho, pa, si, li, lg, ki, ru, ne, ch)).1).2.2.2.2.2.2.2.2.2.2) 0))), (la 1, .inr (0, [.int ((((xTL lt len p0 (st, 2, ho, pa, si, li, lg, ki, ru, ne, ch)).1).2.2.2.2.2.2.2.1) 1), .int ((((xTL lt len p0 (st, 2, ho, pa, si, li, lg, ki, ru, ne, ch)).1).2.2.2.2.2.2.2.2.1) 1), .int ((((xTL lt len p0 (st, 2, ho, pa, si, li, lg, ki, ru, ne, ch)).1).2.2.2.2.2.2.2.2.2.1) 1), .ref (lk 1)])), (lk 1, .inl (cI, 12, .inl ((((xTL lt len p0 (st, 2, ho, pa, si, li, lg, ki, ru, ne, ch)).1).2.2.2.2.2.2.2.2.2.2) 1))), (la 2, .inr (0, [.int ((((xTL lt len p0 (st, 2, ho, pa, si, li, lg, ki, ru, ne, ch)).1).2.2.2.2.2.2.2.1) 2), .int ((((xTL lt len p0 (st, 2, ho, pa, si, li, lg, ki, ru, ne, ch)).1).2.2.2.2.2.2.2.2.1) 2), .int ((((xTL lt len p0 (st, 2, ho, pa, si, li, lg, ki, ru, ne, ch)).1).2.2.2.2.2.2.2.2.2.1) 2), .ref (lk 2)])), (lk 2, .inl (cI, 12, .inl ((((xTL lt len p0 (st, 2, ho, pa, si, li, lg, ki, ru, ne, ch)).1).2.2.2.2.2.2.2.2.2.2) 2)))] := rfl
          exact W.zret (v := 1) (ty := .boolean) hx hb hr (by decide +kernel) (fun t ht hW => ⟨⟨_, (), rfl, (by show _ = (if 0 < xDg lt len (xDp lt len p0) then (if 0 < xSm (xCp (xCf lt len p0) (ch 2) 12) 12 + xDg lt len (xDp lt len p0 + 1) then 1 else 0) else 0); rw [if_pos (Int32.not_le.mp c_32), if_pos (Int32.not_le.mp c_34)]), by rw [ht]; exact hE9 ▸ hP9, hE9 ▸ hD9⟩, hS.F ht⟩) hS.2.2 dX3_takeLine_146
    · refine lv_aload_n hx hb dX3_takeLine_82 rfl (lv_at hl 3 rfl) ?_
      refine va_get (D := D) (ci := 0) (v := .ref (lk 2)) (C := RX0) (T := TX0) (N := 4) hx hb hts hwX0 hown hK hP 9 rfl rfl 3 (by decide) (hts (.fieldLink RX3 96 "WaitOrWalkOn$Line" "chances" "[I") (by decide +kernel)) (fun _ h9 => h9) rfl dX3_takeLine_83 ?_
      refine lv_iload hx hb dX3_takeLine_86 (lv_at hl 0 rfl) ?_
      refine xl_cut (σ := Unit) 110 (fun _ => [.int (xCf lt len p0 t1), .int (nI t1), .ref (lk 2)]) (fun _ ls => lv_has ls 7 [(6, .int (nI t1)), (5, .int (((nI (xDe lt len p0)) - (nI (xDp lt len p0))) - 2)), (4, .int (nI (xDp lt len p0))), (3, .ref (la 2)), (0, .ref tx), (1, .ref rd), (2, .int (nI p0))]) ?_ ?_
      · intro _ ls hl
        refine va_iast (D := D) hx hb hK hP hD hS 10 0 rfl rfl (vp_in_nI (by have w := (nI_ltI (a := t1) (b := 12) (by omega) (by omega)).mp (Int32.not_le.mp c_31); omega) (by decide)) dX3_takeLine_110 (fun H locs hP hD hS => ?_)
        rw [nI_clamp (by omega)] at hP hD
        have hP : va_P D vwCl [(tx, .inr (3, [.ref t0, .int (nI len)])), (t0, .inl (cI, 96, .inl lt)), (rd, .inr (2, [.int (nI st), .int ho, .int pa, .int si, .int li, .int (nI 2), .ref r0, .ref r1])), (r0, .inl (cI, 7, .inl lg)), (r1, .inl (cL, 3, .inr (.inr (.inr (.inr (xL3 (la 0) (la 1) (la 2))))))), (la 0, .inr (0, [.int (ki 0), .int (ru 0), .int (ne 0), .ref (lk 0)])), (lk 0, .inl (cI, 12, .inl (ch 0))), (la 1, .inr (0, [.int (ki 1), .int (ru 1), .int (ne 1), .ref (lk 1)])), (lk 1, .inl (cI, 12, .inl (ch 1))), (la 2, .inr (0, [.int (xKd lt len (p0 + 1)), .int (xDg lt len (xDp lt len p0)), .int (xDg lt len (xDp lt len p0 + 1)), .ref (lk 2)])), (lk 2, .inl (cI, 12, .inl (upd f1 t1 (xCf lt len p0 t1))))] H := hP
        have hD : va_D A [(tx, .inr (3, [.ref t0, .int (nI len)])), (t0, .inl (cI, 96, .inl lt)), (rd, .inr (2, [.int (nI st), .int ho, .int pa, .int si, .int li, .int (nI 2), .ref r0, .ref r1])), (r0, .inl (cI, 7, .inl lg)), (r1, .inl (cL, 3, .inr (.inr (.inr (.inr (xL3 (la 0) (la 1) (la 2))))))), (la 0, .inr (0, [.int (ki 0), .int (ru 0), .int (ne 0), .ref (lk 0)])), (lk 0, .inl (cI, 12, .inl (ch 0))), (la 1, .inr (0, [.int (ki 1), .int (ru 1), .int (ne 1), .ref (lk 1)])), (lk 1, .inl (cI, 12, .inl (ch 1))), (la 2, .inr (0, [.int (xKd lt len (p0 + 1)), .int (xDg lt len (xDp lt len p0)), .int (xDg lt len (xDp lt len p0 + 1)), .ref (lk 2)])), (lk 2, .inl (cI, 12, .inl (upd f1 t1 (xCf lt len p0 t1))))] := hD
        refine lv_iinc (v := nI (t1 + 1)) (lv' := [(6, .int (nI (t1 + 1))), (5, .int (((nI (xDe lt len p0)) - (nI (xDp lt len p0))) - 2)), (4, .int (nI (xDp lt len p0))), (3, .ref (la 2)), (0, .ref tx), (1, .ref rd), (2, .int (nI p0))]) hx hb dX3_takeLine_111 hl (k := 0) rfl (nI_1 t1) (by decide) rfl (fun ls hl => ?_)
        refine lv_goto (tgt := 75) hx hb dX3_takeLine_114 (by decide) ?_
        have w := (nI_ltI (a := t1) (b := 12) (by omega) (by omega)).mp (Int32.not_le.mp c_31)
        exact ih_75 (t1 + 1, upd f1 t1 (xCf lt len p0 t1)) _ _ _ ⟨lv_sub hl [0, 1, 2, 3, 4, 5, 6] rfl, hP.sub [0, 1, 2, 3, 4, 5, 6, 7, 8, 9, 10] rfl, hD.sub [0, 1, 2, 3, 4, 5, 6, 7, 8, 9, 10] (by decide) rfl, hS, by (try dsimp only); exact ⟨by omega, by omega, by rw [h3]; exact xCp_s _ _ t1⟩⟩
      · intro K_110
        refine lv_iload hx hb dX3_takeLine_88 (lv_at hl 0 rfl) ?_
        refine lv_iload hx hb dX3_takeLine_90 (lv_at hl 1 rfl) ?_
        refine lv_icmp_ge (tgt := 109) hx hb dX3_takeLine_92 (by decide) (fun c_35 => ?_) (fun c_35 => ?_)
        · refine lv_iconst (v := 0) hx hb dX3_takeLine_109 (by decide) ?_
          refine xv_int (y := xCf lt len p0 t1) (xCf_f (Int32.not_lt.mpr c_35)) ?_
          exact K_110 () _ (lv_sub hl [0, 1, 2, 3, 4, 5, 6] rfl)
        · refine lv_aload_n hx hb dX3_takeLine_95 rfl (lv_at hl 4 rfl) ?_
          refine lv_iload hx hb dX3_takeLine_96 (lv_at hl 2 rfl) ?_
          refine lv_iconst (v := 2) hx hb dX3_takeLine_98 (by decide) ?_
          refine lv_iadd hx hb dX3_takeLine_99 ?_
          refine xv_int (y := nI (xDp lt len p0 + 2)) (nI_add _ 2) ?_
          refine lv_iload hx hb dX3_takeLine_100 (lv_at hl 0 rfl) ?_
          refine lv_iadd hx hb dX3_takeLine_102 ?_
          refine xv_int (y := nI (xDp lt len p0 + 2 + t1)) (nI_add _ _) ?_
          have hPc := hP.sub (ws' := [(tx, .inr (3, [.ref t0, .int (nI len)])), (t0, .inl (cI, 96, .inl lt))]) [0, 1] rfl
          refine vp_callSi (va_Run.run (va_runV (As := [.int (nI (xDp lt len p0 + 2 + t1))]) (rest := [.int (nI t1), .ref (lk 2)]) ⟨hx, hb, hml, hown, hts⟩ (g_X3_digit l D cI cL cZ cC tx t0 len lt (xDp lt len p0 + 2 + t1) (by first | assumption | decide +kernel) (by have w := (nI_ltI (a := t1) (b := 12) (by omega) (by omega)).mp (Int32.not_le.mp c_31); omega)) (cwV 1 hts gX3_takeLine_X3_digit rfl rfl rfl (by decide +kernel) ⟨Nat.le_of_ble_eq_true rfl, Nat.le_of_ble_eq_true rfl⟩) ⟨xPc_bl, va_recv hK hPc (ci := 3) (q0 := 0) rfl rfl, xPc_use hPc hK⟩ rfl rfl hl.1 rfl (lv_room (Nat.le_of_ble_eq_true rfl)) dX3_takeLine_103 ⟨Nat.le_of_ble_eq_true rfl, Nat.le_of_ble_eq_true rfl⟩)) (fun r_36 er_36 => ?_)
          obtain rfl : (xDg lt len (xDp lt len p0 + 2 + t1) : Int32) = r_36 := Eq.symm er_36
          refine lv_goto (tgt := 110) hx hb dX3_takeLine_106 (by decide) ?_
          refine xv_int (y := xCf lt len p0 t1) (xCf_t (Int32.not_le.mp c_35)) ?_
          exact K_110 () _ (lv_sub hl [0, 1, 2, 3, 4, 5, 6] rfl)
  · refine lv_aload_n hx hb dX3_takeLine_0 rfl (lv_at hl 1 rfl) ?_
    refine va_get (D := D) (ci := 2) (v := .int (nI 3)) (C := RX2) (T := TX2) (N := 8) hx hb hts hwX2 hown hK hP 2 rfl rfl 5 (by decide) (hts (.fieldLink RX3 78 "WaitOrWalkOn$Road" "lineCount" "I") (by decide +kernel)) (fun _ h9 => h9) rfl dX3_takeLine_1 ?_
    refine lv_iconst (v := 3) hx hb dX3_takeLine_4 (by decide) ?_
    refine lv_icmp_lt (tgt := 10) hx hb dX3_takeLine_5 (by decide) (fun c_37 => absurd c_37 (by decide +kernel)) (fun c_37 => ?_)
    refine lv_iconst (v := 0) hx hb dX3_takeLine_8 (by decide) ?_
    have hP9 := hP.sub (ws' := [(tx, .inr (3, [.ref t0, .int (nI len)])), (t0, .inl (cI, 96, .inl lt)), (rd, .inr (2, [.int (nI st), .int ho, .int pa, .int si, .int li, .int (nI 3), .ref r0, .ref r1])), (r0, .inl (cI, 7, .inl lg)), (r1, .inl (cL, 3, .inr (.inr (.inr (.inr (xL3 (la 0) (la 1) (la 2))))))), (la 0, .inr (0, [.int (ki 0), .int (ru 0), .int (ne 0), .ref (lk 0)])), (lk 0, .inl (cI, 12, .inl (ch 0))), (la 1, .inr (0, [.int (ki 1), .int (ru 1), .int (ne 1), .ref (lk 1)])), (lk 1, .inl (cI, 12, .inl (ch 1))), (la 2, .inr (0, [.int (ki 2), .int (ru 2), .int (ne 2), .ref (lk 2)])), (lk 2, .inl (cI, 12, .inl (ch 2)))]) [0, 1, 2, 3, 4, 5, 6, 7, 8, 9, 10] rfl
    have hD9 := hD.sub (ws' := [(tx, .inr (3, [.ref t0, .int (nI len)])), (t0, .inl (cI, 96, .inl lt)), (rd, .inr (2, [.int (nI st), .int ho, .int pa, .int si, .int li, .int (nI 3), .ref r0, .ref r1])), (r0, .inl (cI, 7, .inl lg)), (r1, .inl (cL, 3, .inr (.inr (.inr (.inr (xL3 (la 0) (la 1) (la 2))))))), (la 0, .inr (0, [.int (ki 0), .int (ru 0), .int (ne 0), .ref (lk 0)])), (lk 0, .inl (cI, 12, .inl (ch 0))), (la 1, .inr (0, [.int (ki 1), .int (ru 1), .int (ne 1), .ref (lk 1)])), (lk 1, .inl (cI, 12, .inl (ch 1))), (la 2, .inr (0, [.int (ki 2), .int (ru 2), .int (ne 2), .ref (lk 2)])), (lk 2, .inl (cI, 12, .inl (ch 2)))]) [0, 1, 2, 3, 4, 5, 6, 7, 8, 9, 10] (by decide) rfl
    have hE9 : ([(tx, .inr (3, [.ref t0, .int (nI len)])), (t0, .inl (cI, 96, .inl lt)), (rd, .inr (2, [.int (nI st), .int ho, .int pa, .int si, .int li, .int (nI 3), .ref r0, .ref r1])), (r0, .inl (cI, 7, .inl lg)), (r1, .inl (cL, 3, .inr (.inr (.inr (.inr (xL3 (la 0) (la 1) (la 2))))))), (la 0, .inr (0, [.int (ki 0), .int (ru 0), .int (ne 0), .ref (lk 0)])), (lk 0, .inl (cI, 12, .inl (ch 0))), (la 1, .inr (0, [.int (ki 1), .int (ru 1), .int (ne 1), .ref (lk 1)])), (lk 1, .inl (cI, 12, .inl (ch 1))), (la 2, .inr (0, [.int (ki 2), .int (ru 2), .int (ne 2), .ref (lk 2)])), (lk 2, .inl (cI, 12, .inl (ch 2)))] : va_W) = [(tx, .inr (3, [.ref t0, .int (nI len)])), (t0, .inl (cI, 96, .inl lt)), (rd, .inr (2, [.int (nI (((xTL lt len p0 (st, 3, ho, pa, si, li, lg, ki, ru, ne, ch)).1).1)), .int (((xTL lt len p0 (st, 3, ho, pa, si, li, lg, ki, ru, ne, ch)).1).2.2.1), .int (((xTL lt len p0 (st, 3, ho, pa, si, li, lg, ki, ru, ne, ch)).1).2.2.2.1), .int (((xTL lt len p0 (st, 3, ho, pa, si, li, lg, ki, ru, ne, ch)).1).2.2.2.2.1), .int (((xTL lt len p0 (st, 3, ho, pa, si, li, lg, ki, ru, ne, ch)).1).2.2.2.2.2.1), .int (nI (((xTL lt len p0 (st, 3, ho, pa, si, li, lg, ki, ru, ne, ch)).1).2.1)), .ref r0, .ref r1])), (r0, .inl (cI, 7, .inl (((xTL lt len p0 (st, 3, ho, pa, si, li, lg, ki, ru, ne, ch)).1).2.2.2.2.2.2.1))), (r1, .inl (cL, 3, .inr (.inr (.inr (.inr (xL3 (la 0) (la 1) (la 2))))))), (la 0, .inr (0, [.int ((((xTL lt len p0 (st, 3, ho, pa, si, li, lg, ki, ru, ne, ch)).1).2.2.2.2.2.2.2.1) 0), .int ((((xTL lt len p0 (st, 3, ho, pa, si, li, lg, ki, ru, ne, ch)).1).2.2.2.2.2.2.2.2.1) 0), .int ((((xTL lt len p0 (st, 3, ho, pa, si, li, lg, ki, ru, ne, ch)).1).2.2.2.2.2.2.2.2.2.1) 0), .ref (lk 0)])), (lk 0, .inl (cI, 12, .inl ((((xTL lt len p0 (st, 3, ho, pa, si, li, lg, ki, ru, ne, ch)).1).2.2.2.2.2.2.2.2.2.2) 0))), (la 1, .inr (0, [.int ((((xTL lt len p0 (st, 3, ho, pa, si, li, lg, ki, ru, ne, ch)).1).2.2.2.2.2.2.2.1) 1), .int ((((xTL lt len p0 (st, 3, ho, pa, si, li, lg, ki, ru, ne, ch)).1).2.2.2.2.2.2.2.2.1) 1), .int ((((xTL lt len p0 (st, 3, ho, pa, si, li, lg, ki, ru, ne, ch)).1).2.2.2.2.2.2.2.2.2.1) 1), .ref (lk 1)])), (lk 1, .inl (cI, 12, .inl ((((xTL lt len p0 (st, 3, ho, pa, si, li, lg, ki, ru, ne, ch)).1).2.2.2.2.2.2.2.2.2.2) 1))), (la 2, .inr (0, [.int ((((xTL lt len p0 (st, 3, ho, pa, si, li, lg, ki, ru, ne, ch)).1).2.2.2.2.2.2.2.1) 2), .int ((((xTL lt len p0 (st, 3, ho, pa, si, li, lg, ki, ru, ne, ch)).1).2.2.2.2.2.2.2.2.1) 2), .int ((((xTL lt len p0 (st, 3, ho, pa, si, li, lg, ki, ru, ne, ch)).1).2.2.2.2.2.2.2.2.2.1) 2), .ref (lk 2)])), (lk 2, .inl (cI, 12, .inl ((((xTL lt len p0 (st, 3, ho, pa, si, li, lg, ki, ru, ne, ch)).1).2.2.2.2.2.2.2.2.2.2) 2)))] := rfl
    exact W.zret (v := 0) (ty := .boolean) hx hb hr (by decide +kernel) (fun t ht hW => ⟨⟨_, (), rfl, rfl, by rw [ht]; exact hE9 ▸ hP9, hE9 ▸ hD9⟩, hS.F ht⟩) hS.2.2 dX3_takeLine_9

/-! answers that are 0 or 1 -/
theorem xn_01 {x : Int32} (h : x = 0 ∨ x = 1) : narrow .boolean (.int x) = .int x := by rcases h with rfl | rfl <;> rfl
theorem sCh_01 (q v : Int32) : sCh q v = 0 ∨ sCh q v = 1 := by
  unfold sCh
  repeat' split
  all_goals simp
theorem sAs_01 (n : Nat) (v : Int32) : sAs n v = 0 ∨ sAs n v = 1 := by
  unfold sAs
  repeat' split
  all_goals simp
theorem xTL_01 (lt : Nat → Int32) (len p : Nat) (T : xT) : (xTL lt len p T).2 = 0 ∨ (xTL lt len p T).2 = 1 := by
  obtain ⟨st, ln, ho, pa, si, li, lg, ki, ru, ne, ch⟩ := T
  simp only [xTL]
  repeat' split
  all_goals simp
