theorem xgwX0 : (wsX00).all goodWord = true := by decide +kernel
theorem xgwX1 : (wsX10).all goodWord = true := by decide +kernel
theorem xgwX2 : (wsX20).all goodWord = true := by decide +kernel
theorem xgwX3 : (wsX30).all goodWord = true := by decide +kernel
theorem xgwX4 : (wsX40).all goodWord = true := by decide +kernel
theorem xgwX5 : (wsX50).all goodWord = true := by decide +kernel
theorem dX0_init_0 : decode cX0_init 0 = .ok (.aload_n 0, 1) := by decide +kernel
theorem dX0_init_1 : decode cX0_init 1 = .ok (.invokespecial 3, 3) := by decide +kernel
theorem dX0_init_4 : decode cX0_init 4 = .ok (.aload_n 0, 1) := by decide +kernel
theorem dX0_init_5 : decode cX0_init 5 = .ok (.bipush 12, 2) := by decide +kernel
theorem dX0_init_7 : decode cX0_init 7 = .ok (.newarray .int, 2) := by decide +kernel
theorem dX0_init_9 : decode cX0_init 9 = .ok (.putfield 9, 3) := by decide +kernel
theorem dX0_init_12 : decode cX0_init 12 = .ok (.return_, 1) := by decide +kernel
theorem dX0_become_0 : decode cX0_become 0 = .ok (.aload_n 0, 1) := by decide +kernel
theorem dX0_become_1 : decode cX0_become 1 = .ok (.aload_n 1, 1) := by decide +kernel
theorem dX0_become_2 : decode cX0_become 2 = .ok (.getfield 15, 3) := by decide +kernel
theorem dX0_become_5 : decode cX0_become 5 = .ok (.putfield 15, 3) := by decide +kernel
theorem dX0_become_8 : decode cX0_become 8 = .ok (.aload_n 0, 1) := by decide +kernel
theorem dX0_become_9 : decode cX0_become 9 = .ok (.aload_n 1, 1) := by decide +kernel
theorem dX0_become_10 : decode cX0_become 10 = .ok (.getfield 19, 3) := by decide +kernel
theorem dX0_become_13 : decode cX0_become 13 = .ok (.putfield 19, 3) := by decide +kernel
theorem dX0_become_16 : decode cX0_become 16 = .ok (.aload_n 0, 1) := by decide +kernel
theorem dX0_become_17 : decode cX0_become 17 = .ok (.aload_n 1, 1) := by decide +kernel
theorem dX0_become_18 : decode cX0_become 18 = .ok (.getfield 22, 3) := by decide +kernel
theorem dX0_become_21 : decode cX0_become 21 = .ok (.putfield 22, 3) := by decide +kernel
theorem dX0_become_24 : decode cX0_become 24 = .ok (.aload_n 1, 1) := by decide +kernel
theorem dX0_become_25 : decode cX0_become 25 = .ok (.getfield 9, 3) := by decide +kernel
theorem dX0_become_28 : decode cX0_become 28 = .ok (.iconst 0, 1) := by decide +kernel
theorem dX0_become_29 : decode cX0_become 29 = .ok (.aload_n 0, 1) := by decide +kernel
theorem dX0_become_30 : decode cX0_become 30 = .ok (.getfield 9, 3) := by decide +kernel
theorem dX0_become_33 : decode cX0_become 33 = .ok (.iconst 0, 1) := by decide +kernel
theorem dX0_become_34 : decode cX0_become 34 = .ok (.bipush 12, 2) := by decide +kernel
theorem dX0_become_36 : decode cX0_become 36 = .ok (.invokestatic 25, 3) := by decide +kernel
theorem dX0_become_39 : decode cX0_become 39 = .ok (.return_, 1) := by decide +kernel
theorem dX0_weight_0 : decode cX0_weight 0 = .ok (.iload_n 1, 1) := by decide +kernel
theorem dX0_weight_1 : decode cX0_weight 1 = .ok (.bipush 12, 2) := by decide +kernel
theorem dX0_weight_3 : decode cX0_weight 3 = .ok (.if_icmp .ne 8, 3) := by decide +kernel
theorem dX0_weight_6 : decode cX0_weight 6 = .ok (.aload_n 0, 1) := by decide +kernel
theorem dX0_weight_7 : decode cX0_weight 7 = .ok (.getfield 22, 3) := by decide +kernel
theorem dX0_weight_10 : decode cX0_weight 10 = .ok (.ireturn, 1) := by decide +kernel
theorem dX0_weight_11 : decode cX0_weight 11 = .ok (.iload_n 1, 1) := by decide +kernel
theorem dX0_weight_12 : decode cX0_weight 12 = .ok (.ifCond .lt 18, 3) := by decide +kernel
theorem dX0_weight_15 : decode cX0_weight 15 = .ok (.iload_n 1, 1) := by decide +kernel
theorem dX0_weight_16 : decode cX0_weight 16 = .ok (.bipush 12, 2) := by decide +kernel
theorem dX0_weight_18 : decode cX0_weight 18 = .ok (.if_icmp .ge 12, 3) := by decide +kernel
theorem dX0_weight_21 : decode cX0_weight 21 = .ok (.aload_n 0, 1) := by decide +kernel
theorem dX0_weight_22 : decode cX0_weight 22 = .ok (.getfield 9, 3) := by decide +kernel
theorem dX0_weight_25 : decode cX0_weight 25 = .ok (.iload_n 1, 1) := by decide +kernel
theorem dX0_weight_26 : decode cX0_weight 26 = .ok (.iaload, 1) := by decide +kernel
theorem dX0_weight_27 : decode cX0_weight 27 = .ok (.goto 4, 3) := by decide +kernel
theorem dX0_weight_30 : decode cX0_weight 30 = .ok (.iconst 0, 1) := by decide +kernel
theorem dX0_weight_31 : decode cX0_weight 31 = .ok (.ireturn, 1) := by decide +kernel
theorem dX0_weightAhead_0 : decode cX0_weightAhead 0 = .ok (.iconst 0, 1) := by decide +kernel
theorem dX0_weightAhead_1 : decode cX0_weightAhead 1 = .ok (.istore_n 2, 1) := by decide +kernel
theorem dX0_weightAhead_2 : decode cX0_weightAhead 2 = .ok (.iconst 0, 1) := by decide +kernel
theorem dX0_weightAhead_3 : decode cX0_weightAhead 3 = .ok (.istore_n 3, 1) := by decide +kernel
theorem dX0_weightAhead_4 : decode cX0_weightAhead 4 = .ok (.iload_n 3, 1) := by decide +kernel
theorem dX0_weightAhead_5 : decode cX0_weightAhead 5 = .ok (.bipush 12, 2) := by decide +kernel
theorem dX0_weightAhead_7 : decode cX0_weightAhead 7 = .ok (.if_icmp .ge 23, 3) := by decide +kernel
theorem dX0_weightAhead_10 : decode cX0_weightAhead 10 = .ok (.iload_n 3, 1) := by decide +kernel
theorem dX0_weightAhead_11 : decode cX0_weightAhead 11 = .ok (.iload_n 1, 1) := by decide +kernel
theorem dX0_weightAhead_12 : decode cX0_weightAhead 12 = .ok (.if_icmp .ge 18, 3) := by decide +kernel
theorem dX0_weightAhead_15 : decode cX0_weightAhead 15 = .ok (.iload_n 2, 1) := by decide +kernel
theorem dX0_weightAhead_16 : decode cX0_weightAhead 16 = .ok (.aload_n 0, 1) := by decide +kernel
theorem dX0_weightAhead_17 : decode cX0_weightAhead 17 = .ok (.getfield 9, 3) := by decide +kernel
theorem dX0_weightAhead_20 : decode cX0_weightAhead 20 = .ok (.iload_n 3, 1) := by decide +kernel
theorem dX0_weightAhead_21 : decode cX0_weightAhead 21 = .ok (.iaload, 1) := by decide +kernel
theorem dX0_weightAhead_22 : decode cX0_weightAhead 22 = .ok (.iadd, 1) := by decide +kernel
theorem dX0_weightAhead_23 : decode cX0_weightAhead 23 = .ok (.istore_n 2, 1) := by decide +kernel
theorem dX0_weightAhead_24 : decode cX0_weightAhead 24 = .ok (.iinc 3 1, 3) := by decide +kernel
theorem dX0_weightAhead_27 : decode cX0_weightAhead 27 = .ok (.goto (-23), 3) := by decide +kernel
theorem dX0_weightAhead_30 : decode cX0_weightAhead 30 = .ok (.iload_n 2, 1) := by decide +kernel
theorem dX0_weightAhead_31 : decode cX0_weightAhead 31 = .ok (.ireturn, 1) := by decide +kernel
theorem xiX0_total_X0 : GoodIn wsX0_total wsX00 := goodIn_sub (fun _ h => List.mem_cons_of_mem _ (List.mem_append_right _ h)) xgwX0
set_option maxRecDepth 20000 in
theorem ggX0_total_X0_weightAhead : GoodIn wsX0_total wsX0_weightAhead := (goodIn_ca (goodIn_r _ [6, 7] rfl (by decide +kernel)) xiX0_total_X0)
set_option maxRecDepth 20000 in
theorem gX0_total_X0_weightAhead : GoodIn wsX0_total (wsV RX0 31 RX0 yX0_weightAhead wsX0_weightAhead) := goodIn_app (goodIn_r _ [2, 3, 4, 5] rfl (by decide +kernel)) ggX0_total_X0_weightAhead
theorem dX0_total_0 : decode cX0_total 0 = .ok (.aload_n 0, 1) := by decide +kernel
theorem dX0_total_1 : decode cX0_total 1 = .ok (.bipush 12, 2) := by decide +kernel
theorem dX0_total_3 : decode cX0_total 3 = .ok (.invokevirtual 31, 3) := by decide +kernel
theorem dX0_total_6 : decode cX0_total 6 = .ok (.aload_n 0, 1) := by decide +kernel
theorem dX0_total_7 : decode cX0_total 7 = .ok (.getfield 22, 3) := by decide +kernel
theorem dX0_total_10 : decode cX0_total 10 = .ok (.iadd, 1) := by decide +kernel
theorem dX0_total_11 : decode cX0_total 11 = .ok (.ireturn, 1) := by decide +kernel
theorem dX0_drawn_0 : decode cX0_drawn 0 = .ok (.iconst 0, 1) := by decide +kernel
theorem dX0_drawn_1 : decode cX0_drawn 1 = .ok (.istore_n 2, 1) := by decide +kernel
theorem dX0_drawn_2 : decode cX0_drawn 2 = .ok (.iconst 0, 1) := by decide +kernel
theorem dX0_drawn_3 : decode cX0_drawn 3 = .ok (.istore_n 3, 1) := by decide +kernel
theorem dX0_drawn_4 : decode cX0_drawn 4 = .ok (.iload_n 3, 1) := by decide +kernel
theorem dX0_drawn_5 : decode cX0_drawn 5 = .ok (.bipush 12, 2) := by decide +kernel
theorem dX0_drawn_7 : decode cX0_drawn 7 = .ok (.if_icmp .ge 25, 3) := by decide +kernel
theorem dX0_drawn_10 : decode cX0_drawn 10 = .ok (.iload_n 2, 1) := by decide +kernel
theorem dX0_drawn_11 : decode cX0_drawn 11 = .ok (.aload_n 0, 1) := by decide +kernel
theorem dX0_drawn_12 : decode cX0_drawn 12 = .ok (.getfield 9, 3) := by decide +kernel
theorem dX0_drawn_15 : decode cX0_drawn 15 = .ok (.iload_n 3, 1) := by decide +kernel
theorem dX0_drawn_16 : decode cX0_drawn 16 = .ok (.iaload, 1) := by decide +kernel
theorem dX0_drawn_17 : decode cX0_drawn 17 = .ok (.iadd, 1) := by decide +kernel
theorem dX0_drawn_18 : decode cX0_drawn 18 = .ok (.istore_n 2, 1) := by decide +kernel
theorem dX0_drawn_19 : decode cX0_drawn 19 = .ok (.iload_n 1, 1) := by decide +kernel
theorem dX0_drawn_20 : decode cX0_drawn 20 = .ok (.iload_n 2, 1) := by decide +kernel
theorem dX0_drawn_21 : decode cX0_drawn 21 = .ok (.if_icmp .ge 5, 3) := by decide +kernel
theorem dX0_drawn_24 : decode cX0_drawn 24 = .ok (.iload_n 3, 1) := by decide +kernel
theorem dX0_drawn_25 : decode cX0_drawn 25 = .ok (.ireturn, 1) := by decide +kernel
theorem dX0_drawn_26 : decode cX0_drawn 26 = .ok (.iinc 3 1, 3) := by decide +kernel
theorem dX0_drawn_29 : decode cX0_drawn 29 = .ok (.goto (-25), 3) := by decide +kernel
theorem dX0_drawn_32 : decode cX0_drawn 32 = .ok (.bipush 12, 2) := by decide +kernel
theorem dX0_drawn_34 : decode cX0_drawn 34 = .ok (.ireturn, 1) := by decide +kernel
theorem dX0_rideTo_0 : decode cX0_rideTo 0 = .ok (.iload_n 1, 1) := by decide +kernel
theorem dX0_rideTo_1 : decode cX0_rideTo 1 = .ok (.ifCond .gt 5, 3) := by decide +kernel
theorem dX0_rideTo_4 : decode cX0_rideTo 4 = .ok (.iconst 0, 1) := by decide +kernel
theorem dX0_rideTo_5 : decode cX0_rideTo 5 = .ok (.ireturn, 1) := by decide +kernel
theorem dX0_rideTo_6 : decode cX0_rideTo 6 = .ok (.aload_n 0, 1) := by decide +kernel
theorem dX0_rideTo_7 : decode cX0_rideTo 7 = .ok (.getfield 15, 3) := by decide +kernel
theorem dX0_rideTo_10 : decode cX0_rideTo 10 = .ok (.tableswitch 61 1 4 #[30, 61, 39, 50], 30) := by decide +kernel
theorem dX0_rideTo_40 : decode cX0_rideTo 40 = .ok (.iload_n 1, 1) := by decide +kernel
theorem dX0_rideTo_41 : decode cX0_rideTo 41 = .ok (.aload_n 0, 1) := by decide +kernel
theorem dX0_rideTo_42 : decode cX0_rideTo 42 = .ok (.getfield 19, 3) := by decide +kernel
theorem dX0_rideTo_45 : decode cX0_rideTo 45 = .ok (.iconst 1, 1) := by decide +kernel
theorem dX0_rideTo_46 : decode cX0_rideTo 46 = .ok (.iadd, 1) := by decide +kernel
theorem dX0_rideTo_47 : decode cX0_rideTo 47 = .ok (.imul, 1) := by decide +kernel
theorem dX0_rideTo_48 : decode cX0_rideTo 48 = .ok (.ireturn, 1) := by decide +kernel
theorem dX0_rideTo_49 : decode cX0_rideTo 49 = .ok (.iload_n 1, 1) := by decide +kernel
theorem dX0_rideTo_50 : decode cX0_rideTo 50 = .ok (.aload_n 0, 1) := by decide +kernel
theorem dX0_rideTo_51 : decode cX0_rideTo 51 = .ok (.getfield 19, 3) := by decide +kernel
theorem dX0_rideTo_54 : decode cX0_rideTo 54 = .ok (.iconst 1, 1) := by decide +kernel
theorem dX0_rideTo_55 : decode cX0_rideTo 55 = .ok (.iadd, 1) := by decide +kernel
theorem dX0_rideTo_56 : decode cX0_rideTo 56 = .ok (.imul, 1) := by decide +kernel
theorem dX0_rideTo_57 : decode cX0_rideTo 57 = .ok (.iconst 5, 1) := by decide +kernel
theorem dX0_rideTo_58 : decode cX0_rideTo 58 = .ok (.iadd, 1) := by decide +kernel
theorem dX0_rideTo_59 : decode cX0_rideTo 59 = .ok (.ireturn, 1) := by decide +kernel
theorem dX0_rideTo_60 : decode cX0_rideTo 60 = .ok (.iload_n 1, 1) := by decide +kernel
theorem dX0_rideTo_61 : decode cX0_rideTo 61 = .ok (.aload_n 0, 1) := by decide +kernel
theorem dX0_rideTo_62 : decode cX0_rideTo 62 = .ok (.getfield 19, 3) := by decide +kernel
theorem dX0_rideTo_65 : decode cX0_rideTo 65 = .ok (.iconst 1, 1) := by decide +kernel
theorem dX0_rideTo_66 : decode cX0_rideTo 66 = .ok (.iadd, 1) := by decide +kernel
theorem dX0_rideTo_67 : decode cX0_rideTo 67 = .ok (.iconst 2, 1) := by decide +kernel
theorem dX0_rideTo_68 : decode cX0_rideTo 68 = .ok (.idiv, 1) := by decide +kernel
theorem dX0_rideTo_69 : decode cX0_rideTo 69 = .ok (.imul, 1) := by decide +kernel
theorem dX0_rideTo_70 : decode cX0_rideTo 70 = .ok (.ireturn, 1) := by decide +kernel
theorem dX0_rideTo_71 : decode cX0_rideTo 71 = .ok (.iload_n 1, 1) := by decide +kernel
theorem dX0_rideTo_72 : decode cX0_rideTo 72 = .ok (.aload_n 0, 1) := by decide +kernel
theorem dX0_rideTo_73 : decode cX0_rideTo 73 = .ok (.getfield 19, 3) := by decide +kernel
theorem dX0_rideTo_76 : decode cX0_rideTo 76 = .ok (.imul, 1) := by decide +kernel
theorem dX0_rideTo_77 : decode cX0_rideTo 77 = .ok (.ireturn, 1) := by decide +kernel
theorem dX0_halts_0 : decode cX0_halts 0 = .ok (.aload_n 0, 1) := by decide +kernel
theorem dX0_halts_1 : decode cX0_halts 1 = .ok (.getfield 15, 3) := by decide +kernel
theorem dX0_halts_4 : decode cX0_halts 4 = .ok (.iconst 2, 1) := by decide +kernel
theorem dX0_halts_5 : decode cX0_halts 5 = .ok (.if_icmp .eq 11, 3) := by decide +kernel
theorem dX0_halts_8 : decode cX0_halts 8 = .ok (.aload_n 0, 1) := by decide +kernel
theorem dX0_halts_9 : decode cX0_halts 9 = .ok (.getfield 15, 3) := by decide +kernel
theorem dX0_halts_12 : decode cX0_halts 12 = .ok (.iconst 4, 1) := by decide +kernel
theorem dX0_halts_13 : decode cX0_halts 13 = .ok (.if_icmp .ne 7, 3) := by decide +kernel
theorem dX0_halts_16 : decode cX0_halts 16 = .ok (.iconst 1, 1) := by decide +kernel
theorem dX0_halts_17 : decode cX0_halts 17 = .ok (.goto 4, 3) := by decide +kernel
theorem dX0_halts_20 : decode cX0_halts 20 = .ok (.iconst 0, 1) := by decide +kernel
theorem dX0_halts_21 : decode cX0_halts 21 = .ok (.istore_n 3, 1) := by decide +kernel
theorem dX0_halts_22 : decode cX0_halts 22 = .ok (.iload_n 3, 1) := by decide +kernel
theorem dX0_halts_23 : decode cX0_halts 23 = .ok (.ifCond .eq 14, 3) := by decide +kernel
theorem dX0_halts_26 : decode cX0_halts 26 = .ok (.iload_n 1, 1) := by decide +kernel
theorem dX0_halts_27 : decode cX0_halts 27 = .ok (.iload_n 2, 1) := by decide +kernel
theorem dX0_halts_28 : decode cX0_halts 28 = .ok (.if_icmp .eq 9, 3) := by decide +kernel
theorem dX0_halts_31 : decode cX0_halts 31 = .ok (.iload_n 1, 1) := by decide +kernel
theorem dX0_halts_32 : decode cX0_halts 32 = .ok (.iconst 2, 1) := by decide +kernel
theorem dX0_halts_33 : decode cX0_halts 33 = .ok (.irem, 1) := by decide +kernel
theorem dX0_halts_34 : decode cX0_halts 34 = .ok (.ifCond .ne 7, 3) := by decide +kernel
theorem dX0_halts_37 : decode cX0_halts 37 = .ok (.iconst 1, 1) := by decide +kernel
theorem dX0_halts_38 : decode cX0_halts 38 = .ok (.goto 4, 3) := by decide +kernel
theorem dX0_halts_41 : decode cX0_halts 41 = .ok (.iconst 0, 1) := by decide +kernel
theorem dX0_halts_42 : decode cX0_halts 42 = .ok (.ireturn, 1) := by decide +kernel
theorem dX1_init_0 : decode cX1_init 0 = .ok (.aload_n 0, 1) := by decide +kernel
theorem dX1_init_1 : decode cX1_init 1 = .ok (.invokespecial 3, 3) := by decide +kernel
theorem dX1_init_4 : decode cX1_init 4 = .ok (.aload_n 0, 1) := by decide +kernel
theorem dX1_init_5 : decode cX1_init 5 = .ok (.sipush 5551, 3) := by decide +kernel
theorem dX1_init_8 : decode cX1_init 8 = .ok (.newarray .int, 2) := by decide +kernel
theorem dX1_init_10 : decode cX1_init 10 = .ok (.putfield 11, 3) := by decide +kernel
theorem dX1_init_13 : decode cX1_init 13 = .ok (.aload_n 0, 1) := by decide +kernel
theorem dX1_init_14 : decode cX1_init 14 = .ok (.bipush 13, 2) := by decide +kernel
theorem dX1_init_16 : decode cX1_init 16 = .ok (.newarray .int, 2) := by decide +kernel
theorem dX1_init_18 : decode cX1_init 18 = .ok (.putfield 15, 3) := by decide +kernel
theorem dX1_init_21 : decode cX1_init 21 = .ok (.aload_n 0, 1) := by decide +kernel
theorem dX1_init_22 : decode cX1_init 22 = .ok (.bipush 7, 2) := by decide +kernel
theorem dX1_init_24 : decode cX1_init 24 = .ok (.newarray .int, 2) := by decide +kernel
theorem dX1_init_26 : decode cX1_init 26 = .ok (.putfield 18, 3) := by decide +kernel
theorem dX1_init_29 : decode cX1_init 29 = .ok (.aload_n 0, 1) := by decide +kernel
theorem dX1_init_30 : decode cX1_init 30 = .ok (.bipush 7, 2) := by decide +kernel
theorem dX1_init_32 : decode cX1_init 32 = .ok (.newarray .int, 2) := by decide +kernel
theorem dX1_init_34 : decode cX1_init 34 = .ok (.putfield 21, 3) := by decide +kernel
theorem dX1_init_37 : decode cX1_init 37 = .ok (.aload_n 0, 1) := by decide +kernel
theorem dX1_init_38 : decode cX1_init 38 = .ok (.bipush 7, 2) := by decide +kernel
theorem dX1_init_40 : decode cX1_init 40 = .ok (.newarray .int, 2) := by decide +kernel
theorem dX1_init_42 : decode cX1_init 42 = .ok (.putfield 24, 3) := by decide +kernel
theorem dX1_init_45 : decode cX1_init 45 = .ok (.aload_n 0, 1) := by decide +kernel
theorem dX1_init_46 : decode cX1_init 46 = .ok (.bipush 7, 2) := by decide +kernel
theorem dX1_init_48 : decode cX1_init 48 = .ok (.newarray .boolean, 2) := by decide +kernel
theorem dX1_init_50 : decode cX1_init 50 = .ok (.putfield 27, 3) := by decide +kernel
theorem dX1_init_53 : decode cX1_init 53 = .ok (.return_, 1) := by decide +kernel
theorem xiX1_make_X2 : GoodIn wsX1_make wsX20 := goodIn_sub (fun _ h => List.mem_cons_of_mem _ (List.mem_append_left _ (List.mem_append_right _ h))) xgwX2
set_option maxRecDepth 20000 in
theorem ggX1_make_X2_last : GoodIn wsX1_make wsX2_last := (goodIn_ca (goodIn_r _ [14, 15] rfl (by decide +kernel)) xiX1_make_X2)
set_option maxRecDepth 20000 in
theorem gX1_make_X2_last : GoodIn wsX1_make (wsV RX1 31 RX2 yX2_last wsX2_last) := goodIn_app (goodIn_r _ [10, 11, 12, 13] rfl (by decide +kernel)) ggX1_make_X2_last
theorem xiX1_make_X0 : GoodIn wsX1_make wsX00 := goodIn_sub (fun _ h => List.mem_cons_of_mem _ (List.mem_append_right _ h)) xgwX0
set_option maxRecDepth 20000 in
theorem ggX1_make_X2_rideHome : GoodIn wsX1_make wsX2_rideHome := (goodIn_ca (goodIn_ca (goodIn_r _ [19, 20, 21, 11, 12, 13, 14, 15, 22, 23, 24, 25, 26, 27, 28, 29, 30, 31, 32, 33, 34, 35, 36, 37, 38] rfl (by decide +kernel)) xiX1_make_X2) xiX1_make_X0)
set_option maxRecDepth 20000 in
theorem gX1_make_X2_rideHome : GoodIn wsX1_make (wsV RX1 40 RX2 yX2_rideHome wsX2_rideHome) := goodIn_app (goodIn_r _ [16, 17, 18, 13] rfl (by decide +kernel)) ggX1_make_X2_rideHome
set_option maxRecDepth 20000 in
theorem ggX1_make_X0_rideTo : GoodIn wsX1_make wsX0_rideTo := (goodIn_ca (goodIn_r _ [26, 27, 28] rfl (by decide +kernel)) xiX1_make_X0)
set_option maxRecDepth 20000 in
theorem gX1_make_X0_rideTo : GoodIn wsX1_make (wsV RX1 46 RX0 yX0_rideTo wsX0_rideTo) := goodIn_app (goodIn_r _ [39, 23, 24, 25] rfl (by decide +kernel)) ggX1_make_X0_rideTo
set_option maxRecDepth 20000 in
theorem ggX1_make_X2_wayFrom : GoodIn wsX1_make wsX2_wayFrom := (goodIn_ca (goodIn_r _ [32, 33, 34, 35, 13, 36, 15, 37, 38] rfl (by decide +kernel)) xiX1_make_X2)
set_option maxRecDepth 20000 in
theorem gX1_make_X2_wayFrom : GoodIn wsX1_make (wsV RX1 55 RX2 yX2_wayFrom wsX2_wayFrom) := goodIn_app (goodIn_r _ [40, 30, 31, 13] rfl (by decide +kernel)) ggX1_make_X2_wayFrom
set_option maxRecDepth 20000 in
theorem ggX1_make_X2_walkHome : GoodIn wsX1_make wsX2_walkHome := (goodIn_ca (goodIn_r _ [44, 15, 20, 29, 30, 31, 13, 32, 33, 34, 35, 36, 37, 38] rfl (by decide +kernel)) xiX1_make_X2)
set_option maxRecDepth 20000 in
theorem gX1_make_X2_walkHome : GoodIn wsX1_make (wsV RX1 59 RX2 yX2_walkHome wsX2_walkHome) := goodIn_app (goodIn_r _ [41, 42, 43, 13] rfl (by decide +kernel)) ggX1_make_X2_walkHome
set_option maxRecDepth 20000 in
theorem ggX1_make_X0_halts : GoodIn wsX1_make wsX0_halts := (goodIn_ca (goodIn_r _ [48, 27] rfl (by decide +kernel)) xiX1_make_X0)
set_option maxRecDepth 20000 in
theorem gX1_make_X0_halts : GoodIn wsX1_make (wsV RX1 61 RX0 yX0_halts wsX0_halts) := goodIn_app (goodIn_r _ [45, 46, 47, 25] rfl (by decide +kernel)) ggX1_make_X0_halts
set_option maxRecDepth 20000 in
theorem ggX1_make_X0_total : GoodIn wsX1_make wsX0_total := (goodIn_ca (goodIn_r _ [52, 53, 54, 55, 56, 25, 57, 58] rfl (by decide +kernel)) xiX1_make_X0)
set_option maxRecDepth 20000 in
theorem gX1_make_X0_total : GoodIn wsX1_make (wsV RX1 64 RX0 yX0_total wsX0_total) := goodIn_app (goodIn_r _ [49, 50, 51, 25] rfl (by decide +kernel)) ggX1_make_X0_total
set_option maxRecDepth 20000 in
theorem ggX1_make_X0_weightAhead : GoodIn wsX1_make wsX0_weightAhead := (goodIn_ca (goodIn_r _ [57, 58] rfl (by decide +kernel)) xiX1_make_X0)
set_option maxRecDepth 20000 in
theorem gX1_make_X0_weightAhead : GoodIn wsX1_make (wsV RX1 67 RX0 yX0_weightAhead wsX0_weightAhead) := goodIn_app (goodIn_r _ [59, 55, 56, 25] rfl (by decide +kernel)) ggX1_make_X0_weightAhead
theorem xiX1_make_X1 : GoodIn wsX1_make wsX10 := goodIn_sub (fun _ h => List.mem_cons_of_mem _ (List.mem_append_left _ (List.mem_append_left _ (List.mem_append_right _ h)))) xgwX1
set_option maxRecDepth 20000 in
theorem ggX1_make_X1_boundAt : GoodIn wsX1_make wsX1_boundAt := (goodIn_ca (goodIn_r _ [64, 3, 65, 66, 67, 68, 69, 70, 71] rfl (by decide +kernel)) xiX1_make_X1)
set_option maxRecDepth 20000 in
theorem gX1_make_X1_boundAt : GoodIn wsX1_make (wsV RX1 70 RX1 yX1_boundAt wsX1_boundAt) := goodIn_app (goodIn_r _ [60, 61, 62, 63] rfl (by decide +kernel)) ggX1_make_X1_boundAt
set_option maxRecDepth 20000 in
theorem ggX1_make_X1_index : GoodIn wsX1_make wsX1_index := goodIn_r _ [74] rfl (by decide +kernel)
set_option maxRecDepth 20000 in
theorem gX1_make_X1_index : GoodIn wsX1_make (va_wsS RX1 74 yX1_index wsX1_index) := goodIn_app (goodIn_r _ [72, 73, 63] rfl (by decide +kernel)) ggX1_make_X1_index
set_option maxRecDepth 20000 in
theorem ggX1_make_X1_leastSum : GoodIn wsX1_make wsX1_leastSum := (goodIn_ca (goodIn_r _ [78, 3, 8, 6, 7, 2, 69, 70, 67, 71, 60, 61, 62, 63, 64, 65, 66, 68, 79, 80, 81, 82, 1, 9, 72, 73, 74, 83, 84, 85, 86, 4] rfl (by decide +kernel)) xiX1_make_X1)
set_option maxRecDepth 20000 in
theorem gX1_make_X1_leastSum : GoodIn wsX1_make (wsV RX1 77 RX1 yX1_leastSum wsX1_leastSum) := goodIn_app (goodIn_r _ [75, 76, 77, 63] rfl (by decide +kernel)) ggX1_make_X1_leastSum
theorem dX1_make_0 : decode cX1_make 0 = .ok (.aload_n 0, 1) := by decide +kernel
theorem dX1_make_1 : decode cX1_make 1 = .ok (.aload_n 1, 1) := by decide +kernel
theorem dX1_make_2 : decode cX1_make 2 = .ok (.invokevirtual 31, 3) := by decide +kernel
theorem dX1_make_5 : decode cX1_make 5 = .ok (.putfield 37, 3) := by decide +kernel
theorem dX1_make_8 : decode cX1_make 8 = .ok (.aload_n 0, 1) := by decide +kernel
theorem dX1_make_9 : decode cX1_make 9 = .ok (.aload_n 1, 1) := by decide +kernel
theorem dX1_make_10 : decode cX1_make 10 = .ok (.aload_n 2, 1) := by decide +kernel
theorem dX1_make_11 : decode cX1_make 11 = .ok (.invokevirtual 40, 3) := by decide +kernel
theorem dX1_make_14 : decode cX1_make 14 = .ok (.putfield 44, 3) := by decide +kernel
theorem dX1_make_17 : decode cX1_make 17 = .ok (.iconst 0, 1) := by decide +kernel
theorem dX1_make_18 : decode cX1_make 18 = .ok (.istore_n 3, 1) := by decide +kernel
theorem dX1_make_19 : decode cX1_make 19 = .ok (.iload_n 3, 1) := by decide +kernel
theorem dX1_make_20 : decode cX1_make 20 = .ok (.aload_n 0, 1) := by decide +kernel
theorem dX1_make_21 : decode cX1_make 21 = .ok (.getfield 37, 3) := by decide +kernel
theorem dX1_make_24 : decode cX1_make 24 = .ok (.if_icmp .gt 61, 3) := by decide +kernel
theorem dX1_make_27 : decode cX1_make 27 = .ok (.aload_n 0, 1) := by decide +kernel
theorem dX1_make_28 : decode cX1_make 28 = .ok (.getfield 18, 3) := by decide +kernel
theorem dX1_make_31 : decode cX1_make 31 = .ok (.iload_n 3, 1) := by decide +kernel
theorem dX1_make_32 : decode cX1_make 32 = .ok (.aload_n 2, 1) := by decide +kernel
theorem dX1_make_33 : decode cX1_make 33 = .ok (.iload_n 3, 1) := by decide +kernel
theorem dX1_make_34 : decode cX1_make 34 = .ok (.invokevirtual 46, 3) := by decide +kernel
theorem dX1_make_37 : decode cX1_make 37 = .ok (.iastore, 1) := by decide +kernel
theorem dX1_make_38 : decode cX1_make 38 = .ok (.aload_n 0, 1) := by decide +kernel
theorem dX1_make_39 : decode cX1_make 39 = .ok (.getfield 21, 3) := by decide +kernel
theorem dX1_make_42 : decode cX1_make 42 = .ok (.iload_n 3, 1) := by decide +kernel
theorem dX1_make_43 : decode cX1_make 43 = .ok (.aload_n 1, 1) := by decide +kernel
theorem dX1_make_44 : decode cX1_make 44 = .ok (.iload_n 3, 1) := by decide +kernel
theorem dX1_make_45 : decode cX1_make 45 = .ok (.aload_n 1, 1) := by decide +kernel
theorem dX1_make_46 : decode cX1_make 46 = .ok (.getfield 52, 3) := by decide +kernel
theorem dX1_make_49 : decode cX1_make 49 = .ok (.invokevirtual 55, 3) := by decide +kernel
theorem dX1_make_52 : decode cX1_make 52 = .ok (.iastore, 1) := by decide +kernel
theorem dX1_make_53 : decode cX1_make 53 = .ok (.aload_n 0, 1) := by decide +kernel
theorem dX1_make_54 : decode cX1_make 54 = .ok (.getfield 24, 3) := by decide +kernel
theorem dX1_make_57 : decode cX1_make 57 = .ok (.iload_n 3, 1) := by decide +kernel
theorem dX1_make_58 : decode cX1_make 58 = .ok (.aload_n 1, 1) := by decide +kernel
theorem dX1_make_59 : decode cX1_make 59 = .ok (.iload_n 3, 1) := by decide +kernel
theorem dX1_make_60 : decode cX1_make 60 = .ok (.invokevirtual 59, 3) := by decide +kernel
theorem dX1_make_63 : decode cX1_make 63 = .ok (.iastore, 1) := by decide +kernel
theorem dX1_make_64 : decode cX1_make 64 = .ok (.aload_n 0, 1) := by decide +kernel
theorem dX1_make_65 : decode cX1_make 65 = .ok (.getfield 27, 3) := by decide +kernel
theorem dX1_make_68 : decode cX1_make 68 = .ok (.iload_n 3, 1) := by decide +kernel
theorem dX1_make_69 : decode cX1_make 69 = .ok (.aload_n 2, 1) := by decide +kernel
theorem dX1_make_70 : decode cX1_make 70 = .ok (.iload_n 3, 1) := by decide +kernel
theorem dX1_make_71 : decode cX1_make 71 = .ok (.aload_n 0, 1) := by decide +kernel
theorem dX1_make_72 : decode cX1_make 72 = .ok (.getfield 37, 3) := by decide +kernel
theorem dX1_make_75 : decode cX1_make 75 = .ok (.invokevirtual 61, 3) := by decide +kernel
theorem dX1_make_78 : decode cX1_make 78 = .ok (.bastore, 1) := by decide +kernel
theorem dX1_make_79 : decode cX1_make 79 = .ok (.iinc 3 1, 3) := by decide +kernel
theorem dX1_make_82 : decode cX1_make 82 = .ok (.goto (-63), 3) := by decide +kernel
theorem dX1_make_85 : decode cX1_make 85 = .ok (.iconst 0, 1) := by decide +kernel
theorem dX1_make_86 : decode cX1_make 86 = .ok (.istore_n 3, 1) := by decide +kernel
theorem dX1_make_87 : decode cX1_make 87 = .ok (.iload_n 3, 1) := by decide +kernel
theorem dX1_make_88 : decode cX1_make 88 = .ok (.bipush 12, 2) := by decide +kernel
theorem dX1_make_90 : decode cX1_make 90 = .ok (.if_icmp .gt 25, 3) := by decide +kernel
theorem dX1_make_93 : decode cX1_make 93 = .ok (.aload_n 0, 1) := by decide +kernel
theorem dX1_make_94 : decode cX1_make 94 = .ok (.getfield 15, 3) := by decide +kernel
theorem dX1_make_97 : decode cX1_make 97 = .ok (.iload_n 3, 1) := by decide +kernel
theorem dX1_make_98 : decode cX1_make 98 = .ok (.aload_n 2, 1) := by decide +kernel
theorem dX1_make_99 : decode cX1_make 99 = .ok (.invokevirtual 64, 3) := by decide +kernel
theorem dX1_make_102 : decode cX1_make 102 = .ok (.aload_n 2, 1) := by decide +kernel
theorem dX1_make_103 : decode cX1_make 103 = .ok (.iload_n 3, 1) := by decide +kernel
theorem dX1_make_104 : decode cX1_make 104 = .ok (.invokevirtual 67, 3) := by decide +kernel
theorem dX1_make_107 : decode cX1_make 107 = .ok (.isub, 1) := by decide +kernel
theorem dX1_make_108 : decode cX1_make 108 = .ok (.iastore, 1) := by decide +kernel
theorem dX1_make_109 : decode cX1_make 109 = .ok (.iinc 3 1, 3) := by decide +kernel
theorem dX1_make_112 : decode cX1_make 112 = .ok (.goto (-25), 3) := by decide +kernel
theorem dX1_make_115 : decode cX1_make 115 = .ok (.aload_n 0, 1) := by decide +kernel
theorem dX1_make_116 : decode cX1_make 116 = .ok (.getfield 37, 3) := by decide +kernel
theorem dX1_make_119 : decode cX1_make 119 = .ok (.iconst 1, 1) := by decide +kernel
theorem dX1_make_120 : decode cX1_make 120 = .ok (.isub, 1) := by decide +kernel
theorem dX1_make_121 : decode cX1_make 121 = .ok (.istore_n 3, 1) := by decide +kernel
theorem dX1_make_122 : decode cX1_make 122 = .ok (.iload_n 3, 1) := by decide +kernel
theorem dX1_make_123 : decode cX1_make 123 = .ok (.ifCond .lt 69, 3) := by decide +kernel
theorem dX1_make_126 : decode cX1_make 126 = .ok (.bipush 60, 2) := by decide +kernel
theorem dX1_make_128 : decode cX1_make 128 = .ok (.istore 4, 2) := by decide +kernel
theorem dX1_make_130 : decode cX1_make 130 = .ok (.iload 4, 2) := by decide +kernel
theorem dX1_make_132 : decode cX1_make 132 = .ok (.ifCond .lt 54, 3) := by decide +kernel
theorem dX1_make_135 : decode cX1_make 135 = .ok (.aload_n 0, 1) := by decide +kernel
theorem dX1_make_136 : decode cX1_make 136 = .ok (.iload_n 3, 1) := by decide +kernel
theorem dX1_make_137 : decode cX1_make 137 = .ok (.iload 4, 2) := by decide +kernel
theorem dX1_make_139 : decode cX1_make 139 = .ok (.iconst 0, 1) := by decide +kernel
theorem dX1_make_140 : decode cX1_make 140 = .ok (.invokevirtual 70, 3) := by decide +kernel
theorem dX1_make_143 : decode cX1_make 143 = .ok (.istore 5, 2) := by decide +kernel
theorem dX1_make_145 : decode cX1_make 145 = .ok (.iload 5, 2) := by decide +kernel
theorem dX1_make_147 : decode cX1_make 147 = .ok (.bipush 12, 2) := by decide +kernel
theorem dX1_make_149 : decode cX1_make 149 = .ok (.if_icmp .gt 31, 3) := by decide +kernel
theorem dX1_make_152 : decode cX1_make 152 = .ok (.aload_n 0, 1) := by decide +kernel
theorem dX1_make_153 : decode cX1_make 153 = .ok (.getfield 11, 3) := by decide +kernel
theorem dX1_make_156 : decode cX1_make 156 = .ok (.iload_n 3, 1) := by decide +kernel
theorem dX1_make_157 : decode cX1_make 157 = .ok (.iload 4, 2) := by decide +kernel
theorem dX1_make_159 : decode cX1_make 159 = .ok (.iload 5, 2) := by decide +kernel
theorem dX1_make_161 : decode cX1_make 161 = .ok (.invokestatic 74, 3) := by decide +kernel
theorem dX1_make_164 : decode cX1_make 164 = .ok (.aload_n 0, 1) := by decide +kernel
theorem dX1_make_165 : decode cX1_make 165 = .ok (.iload_n 3, 1) := by decide +kernel
theorem dX1_make_166 : decode cX1_make 166 = .ok (.iload 4, 2) := by decide +kernel
theorem dX1_make_168 : decode cX1_make 168 = .ok (.iload 5, 2) := by decide +kernel
theorem dX1_make_170 : decode cX1_make 170 = .ok (.invokevirtual 77, 3) := by decide +kernel
theorem dX1_make_173 : decode cX1_make 173 = .ok (.iastore, 1) := by decide +kernel
theorem dX1_make_174 : decode cX1_make 174 = .ok (.iinc 5 1, 3) := by decide +kernel
theorem dX1_make_177 : decode cX1_make 177 = .ok (.goto (-32), 3) := by decide +kernel
theorem dX1_make_180 : decode cX1_make 180 = .ok (.iinc 4 (-1), 3) := by decide +kernel
theorem dX1_make_183 : decode cX1_make 183 = .ok (.goto (-53), 3) := by decide +kernel
theorem dX1_make_186 : decode cX1_make 186 = .ok (.iinc 3 (-1), 3) := by decide +kernel
theorem dX1_make_189 : decode cX1_make 189 = .ok (.goto (-67), 3) := by decide +kernel
theorem dX1_make_192 : decode cX1_make 192 = .ok (.return_, 1) := by decide +kernel
theorem xiX1_choice_X1 : GoodIn wsX1_choice wsX10 := goodIn_sub (fun _ h => List.mem_cons_of_mem _ (List.mem_append_right _ h)) xgwX1
set_option maxRecDepth 20000 in
theorem ggX1_choice_X1_weightAt : GoodIn wsX1_choice wsX1_weightAt := (goodIn_ca (goodIn_r _ [6, 7, 8, 9, 10, 5, 11, 12, 13, 14, 15, 16, 17, 18, 19] rfl (by decide +kernel)) xiX1_choice_X1)
set_option maxRecDepth 20000 in
theorem gX1_choice_X1_weightAt : GoodIn wsX1_choice (wsV RX1 80 RX1 yX1_weightAt wsX1_weightAt) := goodIn_app (goodIn_r _ [2, 3, 4, 5] rfl (by decide +kernel)) ggX1_choice_X1_weightAt
set_option maxRecDepth 20000 in
theorem ggX1_choice_X1_boundAt : GoodIn wsX1_choice wsX1_boundAt := (goodIn_ca (goodIn_r _ [11, 12, 13, 14, 15, 16, 17, 18, 19] rfl (by decide +kernel)) xiX1_choice_X1)
set_option maxRecDepth 20000 in
theorem gX1_choice_X1_boundAt : GoodIn wsX1_choice (wsV RX1 70 RX1 yX1_boundAt wsX1_boundAt) := goodIn_app (goodIn_r _ [8, 9, 10, 5] rfl (by decide +kernel)) ggX1_choice_X1_boundAt
set_option maxRecDepth 20000 in
theorem ggX1_choice_X1_walkSum : GoodIn wsX1_choice wsX1_walkSum := (goodIn_ca (goodIn_r _ [23, 24, 7, 25, 8, 9, 10, 5, 11, 12, 13, 14, 15, 16, 17, 18, 19, 26, 27, 28, 29, 1, 30, 31, 32, 33] rfl (by decide +kernel)) xiX1_choice_X1)
set_option maxRecDepth 20000 in
theorem gX1_choice_X1_walkSum : GoodIn wsX1_choice (wsV RX1 83 RX1 yX1_walkSum wsX1_walkSum) := goodIn_app (goodIn_r _ [20, 21, 22, 5] rfl (by decide +kernel)) ggX1_choice_X1_walkSum
set_option maxRecDepth 20000 in
theorem ggX1_choice_X1_sumAt : GoodIn wsX1_choice wsX1_sumAt := (goodIn_ca (goodIn_r _ [29, 1, 7, 25, 30, 31, 32, 5, 33] rfl (by decide +kernel)) xiX1_choice_X1)
set_option maxRecDepth 20000 in
theorem gX1_choice_X1_sumAt : GoodIn wsX1_choice (wsV RX1 86 RX1 yX1_sumAt wsX1_sumAt) := goodIn_app (goodIn_r _ [26, 27, 28, 5] rfl (by decide +kernel)) ggX1_choice_X1_sumAt
theorem dX1_choice_0 : decode cX1_choice 0 = .ok (.aload_n 0, 1) := by decide +kernel
theorem dX1_choice_1 : decode cX1_choice 1 = .ok (.iload_n 1, 1) := by decide +kernel
theorem dX1_choice_2 : decode cX1_choice 2 = .ok (.iload_n 2, 1) := by decide +kernel
theorem dX1_choice_3 : decode cX1_choice 3 = .ok (.invokevirtual 80, 3) := by decide +kernel
theorem dX1_choice_6 : decode cX1_choice 6 = .ok (.ifCond .ne 6, 3) := by decide +kernel
theorem dX1_choice_9 : decode cX1_choice 9 = .ok (.bipush (-9), 2) := by decide +kernel
theorem dX1_choice_11 : decode cX1_choice 11 = .ok (.ireturn, 1) := by decide +kernel
theorem dX1_choice_12 : decode cX1_choice 12 = .ok (.iload_n 1, 1) := by decide +kernel
theorem dX1_choice_13 : decode cX1_choice 13 = .ok (.aload_n 0, 1) := by decide +kernel
theorem dX1_choice_14 : decode cX1_choice 14 = .ok (.getfield 37, 3) := by decide +kernel
theorem dX1_choice_17 : decode cX1_choice 17 = .ok (.if_icmp .ge 9, 3) := by decide +kernel
theorem dX1_choice_20 : decode cX1_choice 20 = .ok (.iload_n 2, 1) := by decide +kernel
theorem dX1_choice_21 : decode cX1_choice 21 = .ok (.bipush 60, 2) := by decide +kernel
theorem dX1_choice_23 : decode cX1_choice 23 = .ok (.if_icmp .lt 5, 3) := by decide +kernel
theorem dX1_choice_26 : decode cX1_choice 26 = .ok (.iconst 1, 1) := by decide +kernel
theorem dX1_choice_27 : decode cX1_choice 27 = .ok (.ireturn, 1) := by decide +kernel
theorem dX1_choice_28 : decode cX1_choice 28 = .ok (.aload_n 0, 1) := by decide +kernel
theorem dX1_choice_29 : decode cX1_choice 29 = .ok (.iload_n 1, 1) := by decide +kernel
theorem dX1_choice_30 : decode cX1_choice 30 = .ok (.iload_n 2, 1) := by decide +kernel
theorem dX1_choice_31 : decode cX1_choice 31 = .ok (.iconst 1, 1) := by decide +kernel
theorem dX1_choice_32 : decode cX1_choice 32 = .ok (.iadd, 1) := by decide +kernel
theorem dX1_choice_33 : decode cX1_choice 33 = .ok (.iconst 0, 1) := by decide +kernel
theorem dX1_choice_34 : decode cX1_choice 34 = .ok (.invokevirtual 70, 3) := by decide +kernel
theorem dX1_choice_37 : decode cX1_choice 37 = .ok (.istore_n 3, 1) := by decide +kernel
theorem dX1_choice_38 : decode cX1_choice 38 = .ok (.aload_n 0, 1) := by decide +kernel
theorem dX1_choice_39 : decode cX1_choice 39 = .ok (.iload_n 1, 1) := by decide +kernel
theorem dX1_choice_40 : decode cX1_choice 40 = .ok (.iload_n 2, 1) := by decide +kernel
theorem dX1_choice_41 : decode cX1_choice 41 = .ok (.iload_n 3, 1) := by decide +kernel
theorem dX1_choice_42 : decode cX1_choice 42 = .ok (.invokevirtual 83, 3) := by decide +kernel
theorem dX1_choice_45 : decode cX1_choice 45 = .ok (.aload_n 0, 1) := by decide +kernel
theorem dX1_choice_46 : decode cX1_choice 46 = .ok (.iload_n 1, 1) := by decide +kernel
theorem dX1_choice_47 : decode cX1_choice 47 = .ok (.iload_n 2, 1) := by decide +kernel
theorem dX1_choice_48 : decode cX1_choice 48 = .ok (.iconst 1, 1) := by decide +kernel
theorem dX1_choice_49 : decode cX1_choice 49 = .ok (.iadd, 1) := by decide +kernel
theorem dX1_choice_50 : decode cX1_choice 50 = .ok (.iload_n 3, 1) := by decide +kernel
theorem dX1_choice_51 : decode cX1_choice 51 = .ok (.invokevirtual 86, 3) := by decide +kernel
theorem dX1_choice_54 : decode cX1_choice 54 = .ok (.if_icmp .ge 7, 3) := by decide +kernel
theorem dX1_choice_57 : decode cX1_choice 57 = .ok (.iconst 1, 1) := by decide +kernel
theorem dX1_choice_58 : decode cX1_choice 58 = .ok (.goto 4, 3) := by decide +kernel
theorem dX1_choice_61 : decode cX1_choice 61 = .ok (.iconst 0, 1) := by decide +kernel
theorem dX1_choice_62 : decode cX1_choice 62 = .ok (.ireturn, 1) := by decide +kernel
theorem xiX1_weightAt_X1 : GoodIn wsX1_weightAt wsX10 := goodIn_sub (fun _ h => List.mem_cons_of_mem _ (List.mem_append_right _ h)) xgwX1
set_option maxRecDepth 20000 in
theorem ggX1_weightAt_X1_boundAt : GoodIn wsX1_weightAt wsX1_boundAt := (goodIn_ca (goodIn_r _ [6, 7, 8, 9, 10, 11, 12, 13, 14] rfl (by decide +kernel)) xiX1_weightAt_X1)
set_option maxRecDepth 20000 in
theorem gX1_weightAt_X1_boundAt : GoodIn wsX1_weightAt (wsV RX1 70 RX1 yX1_boundAt wsX1_boundAt) := goodIn_app (goodIn_r _ [2, 3, 4, 5] rfl (by decide +kernel)) ggX1_weightAt_X1_boundAt
theorem dX1_weightAt_0 : decode cX1_weightAt 0 = .ok (.aload_n 0, 1) := by decide +kernel
theorem dX1_weightAt_1 : decode cX1_weightAt 1 = .ok (.getfield 15, 3) := by decide +kernel
theorem dX1_weightAt_4 : decode cX1_weightAt 4 = .ok (.aload_n 0, 1) := by decide +kernel
theorem dX1_weightAt_5 : decode cX1_weightAt 5 = .ok (.iload_n 1, 1) := by decide +kernel
theorem dX1_weightAt_6 : decode cX1_weightAt 6 = .ok (.iload_n 2, 1) := by decide +kernel
theorem dX1_weightAt_7 : decode cX1_weightAt 7 = .ok (.iconst 0, 1) := by decide +kernel
theorem dX1_weightAt_8 : decode cX1_weightAt 8 = .ok (.invokevirtual 70, 3) := by decide +kernel
theorem dX1_weightAt_11 : decode cX1_weightAt 11 = .ok (.iaload, 1) := by decide +kernel
theorem dX1_weightAt_12 : decode cX1_weightAt 12 = .ok (.ireturn, 1) := by decide +kernel
theorem xiX1_leastAt_X1 : GoodIn wsX1_leastAt wsX10 := goodIn_sub (fun _ h => List.mem_cons_of_mem _ (List.mem_append_right _ h)) xgwX1
set_option maxRecDepth 20000 in
theorem ggX1_leastAt_X1_boundAt : GoodIn wsX1_leastAt wsX1_boundAt := (goodIn_ca (goodIn_r _ [5, 6, 7, 8, 9, 10, 11, 12, 13] rfl (by decide +kernel)) xiX1_leastAt_X1)
set_option maxRecDepth 20000 in
theorem gX1_leastAt_X1_boundAt : GoodIn wsX1_leastAt (wsV RX1 70 RX1 yX1_boundAt wsX1_boundAt) := goodIn_app (goodIn_r _ [1, 2, 3, 4] rfl (by decide +kernel)) ggX1_leastAt_X1_boundAt
set_option maxRecDepth 20000 in
theorem ggX1_leastAt_X1_sumAt : GoodIn wsX1_leastAt wsX1_sumAt := (goodIn_ca (goodIn_r _ [17, 18, 19, 20, 21, 22, 23, 4, 24] rfl (by decide +kernel)) xiX1_leastAt_X1)
set_option maxRecDepth 20000 in
theorem gX1_leastAt_X1_sumAt : GoodIn wsX1_leastAt (wsV RX1 86 RX1 yX1_sumAt wsX1_sumAt) := goodIn_app (goodIn_r _ [14, 15, 16, 4] rfl (by decide +kernel)) ggX1_leastAt_X1_sumAt
theorem dX1_leastAt_0 : decode cX1_leastAt 0 = .ok (.aload_n 0, 1) := by decide +kernel
theorem dX1_leastAt_1 : decode cX1_leastAt 1 = .ok (.iload_n 1, 1) := by decide +kernel
theorem dX1_leastAt_2 : decode cX1_leastAt 2 = .ok (.iload_n 2, 1) := by decide +kernel
theorem dX1_leastAt_3 : decode cX1_leastAt 3 = .ok (.aload_n 0, 1) := by decide +kernel
theorem dX1_leastAt_4 : decode cX1_leastAt 4 = .ok (.iload_n 1, 1) := by decide +kernel
theorem dX1_leastAt_5 : decode cX1_leastAt 5 = .ok (.iload_n 2, 1) := by decide +kernel
theorem dX1_leastAt_6 : decode cX1_leastAt 6 = .ok (.iconst 0, 1) := by decide +kernel
theorem dX1_leastAt_7 : decode cX1_leastAt 7 = .ok (.invokevirtual 70, 3) := by decide +kernel
theorem dX1_leastAt_10 : decode cX1_leastAt 10 = .ok (.invokevirtual 86, 3) := by decide +kernel
theorem dX1_leastAt_13 : decode cX1_leastAt 13 = .ok (.ireturn, 1) := by decide +kernel
set_option maxRecDepth 20000 in
theorem ggX1_sumAt_X1_index : GoodIn wsX1_sumAt wsX1_index := goodIn_r _ [8] rfl (by decide +kernel)
set_option maxRecDepth 20000 in
theorem gX1_sumAt_X1_index : GoodIn wsX1_sumAt (va_wsS RX1 74 yX1_index wsX1_index) := goodIn_app (goodIn_r _ [5, 6, 7] rfl (by decide +kernel)) ggX1_sumAt_X1_index
theorem dX1_sumAt_0 : decode cX1_sumAt 0 = .ok (.iload_n 1, 1) := by decide +kernel
theorem dX1_sumAt_1 : decode cX1_sumAt 1 = .ok (.aload_n 0, 1) := by decide +kernel
theorem dX1_sumAt_2 : decode cX1_sumAt 2 = .ok (.getfield 37, 3) := by decide +kernel
theorem dX1_sumAt_5 : decode cX1_sumAt 5 = .ok (.if_icmp .ge 9, 3) := by decide +kernel
theorem dX1_sumAt_8 : decode cX1_sumAt 8 = .ok (.iload_n 2, 1) := by decide +kernel
theorem dX1_sumAt_9 : decode cX1_sumAt 9 = .ok (.bipush 60, 2) := by decide +kernel
theorem dX1_sumAt_11 : decode cX1_sumAt 11 = .ok (.if_icmp .le 19, 3) := by decide +kernel
theorem dX1_sumAt_14 : decode cX1_sumAt 14 = .ok (.aload_n 0, 1) := by decide +kernel
theorem dX1_sumAt_15 : decode cX1_sumAt 15 = .ok (.getfield 15, 3) := by decide +kernel
theorem dX1_sumAt_18 : decode cX1_sumAt 18 = .ok (.iload_n 3, 1) := by decide +kernel
theorem dX1_sumAt_19 : decode cX1_sumAt 19 = .ok (.iaload, 1) := by decide +kernel
theorem dX1_sumAt_20 : decode cX1_sumAt 20 = .ok (.iload_n 2, 1) := by decide +kernel
theorem dX1_sumAt_21 : decode cX1_sumAt 21 = .ok (.aload_n 0, 1) := by decide +kernel
theorem dX1_sumAt_22 : decode cX1_sumAt 22 = .ok (.getfield 24, 3) := by decide +kernel
theorem dX1_sumAt_25 : decode cX1_sumAt 25 = .ok (.iload_n 1, 1) := by decide +kernel
theorem dX1_sumAt_26 : decode cX1_sumAt 26 = .ok (.iaload, 1) := by decide +kernel
theorem dX1_sumAt_27 : decode cX1_sumAt 27 = .ok (.iadd, 1) := by decide +kernel
theorem dX1_sumAt_28 : decode cX1_sumAt 28 = .ok (.imul, 1) := by decide +kernel
theorem dX1_sumAt_29 : decode cX1_sumAt 29 = .ok (.ireturn, 1) := by decide +kernel
theorem dX1_sumAt_30 : decode cX1_sumAt 30 = .ok (.aload_n 0, 1) := by decide +kernel
theorem dX1_sumAt_31 : decode cX1_sumAt 31 = .ok (.getfield 11, 3) := by decide +kernel
theorem dX1_sumAt_34 : decode cX1_sumAt 34 = .ok (.iload_n 1, 1) := by decide +kernel
theorem dX1_sumAt_35 : decode cX1_sumAt 35 = .ok (.iload_n 2, 1) := by decide +kernel
theorem dX1_sumAt_36 : decode cX1_sumAt 36 = .ok (.iload_n 3, 1) := by decide +kernel
theorem dX1_sumAt_37 : decode cX1_sumAt 37 = .ok (.invokestatic 74, 3) := by decide +kernel
theorem dX1_sumAt_40 : decode cX1_sumAt 40 = .ok (.iaload, 1) := by decide +kernel
theorem dX1_sumAt_41 : decode cX1_sumAt 41 = .ok (.ireturn, 1) := by decide +kernel
theorem dX1_index_0 : decode cX1_index 0 = .ok (.iload_n 0, 1) := by decide +kernel
theorem dX1_index_1 : decode cX1_index 1 = .ok (.bipush 61, 2) := by decide +kernel
theorem dX1_index_3 : decode cX1_index 3 = .ok (.imul, 1) := by decide +kernel
theorem dX1_index_4 : decode cX1_index 4 = .ok (.iload_n 1, 1) := by decide +kernel
theorem dX1_index_5 : decode cX1_index 5 = .ok (.iadd, 1) := by decide +kernel
theorem dX1_index_6 : decode cX1_index 6 = .ok (.bipush 13, 2) := by decide +kernel
theorem dX1_index_8 : decode cX1_index 8 = .ok (.imul, 1) := by decide +kernel
theorem dX1_index_9 : decode cX1_index 9 = .ok (.iload_n 2, 1) := by decide +kernel
theorem dX1_index_10 : decode cX1_index 10 = .ok (.iadd, 1) := by decide +kernel
theorem dX1_index_11 : decode cX1_index 11 = .ok (.ireturn, 1) := by decide +kernel
theorem dX1_boundAt_0 : decode cX1_boundAt 0 = .ok (.bipush 12, 2) := by decide +kernel
theorem dX1_boundAt_2 : decode cX1_boundAt 2 = .ok (.iload_n 3, 1) := by decide +kernel
theorem dX1_boundAt_3 : decode cX1_boundAt 3 = .ok (.iload_n 2, 1) := by decide +kernel
theorem dX1_boundAt_4 : decode cX1_boundAt 4 = .ok (.aload_n 0, 1) := by decide +kernel
theorem dX1_boundAt_5 : decode cX1_boundAt 5 = .ok (.getfield 18, 3) := by decide +kernel
theorem dX1_boundAt_8 : decode cX1_boundAt 8 = .ok (.iload_n 1, 1) := by decide +kernel
theorem dX1_boundAt_9 : decode cX1_boundAt 9 = .ok (.iaload, 1) := by decide +kernel
theorem dX1_boundAt_10 : decode cX1_boundAt 10 = .ok (.isub, 1) := by decide +kernel
theorem dX1_boundAt_11 : decode cX1_boundAt 11 = .ok (.invokestatic 89, 3) := by decide +kernel
theorem dX1_boundAt_14 : decode cX1_boundAt 14 = .ok (.invokestatic 94, 3) := by decide +kernel
theorem dX1_boundAt_17 : decode cX1_boundAt 17 = .ok (.ireturn, 1) := by decide +kernel
theorem xiX1_leastSum_X1 : GoodIn wsX1_leastSum wsX10 := goodIn_sub (fun _ h => List.mem_cons_of_mem _ (List.mem_append_right _ h)) xgwX1
set_option maxRecDepth 20000 in
theorem ggX1_leastSum_X1_boundAt : GoodIn wsX1_leastSum wsX1_boundAt := (goodIn_ca (goodIn_r _ [14, 1, 15, 16, 8, 17, 6, 7, 9] rfl (by decide +kernel)) xiX1_leastSum_X1)
set_option maxRecDepth 20000 in
theorem gX1_leastSum_X1_boundAt : GoodIn wsX1_leastSum (wsV RX1 70 RX1 yX1_boundAt wsX1_boundAt) := goodIn_app (goodIn_r _ [10, 11, 12, 13] rfl (by decide +kernel)) ggX1_leastSum_X1_boundAt
set_option maxRecDepth 20000 in
theorem ggX1_leastSum_X1_sumAt : GoodIn wsX1_leastSum wsX1_sumAt := (goodIn_ca (goodIn_r _ [21, 22, 2, 3, 23, 24, 25, 13, 26] rfl (by decide +kernel)) xiX1_leastSum_X1)
set_option maxRecDepth 20000 in
theorem gX1_leastSum_X1_sumAt : GoodIn wsX1_leastSum (wsV RX1 86 RX1 yX1_sumAt wsX1_sumAt) := goodIn_app (goodIn_r _ [18, 19, 20, 13] rfl (by decide +kernel)) ggX1_leastSum_X1_sumAt
set_option maxRecDepth 20000 in
theorem ggX1_leastSum_X1_walkSum : GoodIn wsX1_leastSum wsX1_walkSum := (goodIn_ca (goodIn_r _ [30, 31, 2, 3, 10, 11, 12, 13, 14, 1, 15, 16, 8, 17, 6, 7, 9, 18, 19, 20, 21, 22, 23, 24, 25, 26] rfl (by decide +kernel)) xiX1_leastSum_X1)
set_option maxRecDepth 20000 in
theorem gX1_leastSum_X1_walkSum : GoodIn wsX1_leastSum (wsV RX1 83 RX1 yX1_walkSum wsX1_walkSum) := goodIn_app (goodIn_r _ [27, 28, 29, 13] rfl (by decide +kernel)) ggX1_leastSum_X1_walkSum
theorem dX1_leastSum_0 : decode cX1_leastSum 0 = .ok (.iload_n 2, 1) := by decide +kernel
theorem dX1_leastSum_1 : decode cX1_leastSum 1 = .ok (.aload_n 0, 1) := by decide +kernel
theorem dX1_leastSum_2 : decode cX1_leastSum 2 = .ok (.getfield 18, 3) := by decide +kernel
theorem dX1_leastSum_5 : decode cX1_leastSum 5 = .ok (.iload_n 1, 1) := by decide +kernel
theorem dX1_leastSum_6 : decode cX1_leastSum 6 = .ok (.iaload, 1) := by decide +kernel
theorem dX1_leastSum_7 : decode cX1_leastSum 7 = .ok (.isub, 1) := by decide +kernel
theorem dX1_leastSum_8 : decode cX1_leastSum 8 = .ok (.istore 4, 2) := by decide +kernel
theorem dX1_leastSum_10 : decode cX1_leastSum 10 = .ok (.iload 4, 2) := by decide +kernel
theorem dX1_leastSum_12 : decode cX1_leastSum 12 = .ok (.iload_n 3, 1) := by decide +kernel
theorem dX1_leastSum_13 : decode cX1_leastSum 13 = .ok (.if_icmp .lt 30, 3) := by decide +kernel
theorem dX1_leastSum_16 : decode cX1_leastSum 16 = .ok (.iload 4, 2) := by decide +kernel
theorem dX1_leastSum_18 : decode cX1_leastSum 18 = .ok (.bipush 12, 2) := by decide +kernel
theorem dX1_leastSum_20 : decode cX1_leastSum 20 = .ok (.if_icmp .ge 23, 3) := by decide +kernel
theorem dX1_leastSum_23 : decode cX1_leastSum 23 = .ok (.aload_n 0, 1) := by decide +kernel
theorem dX1_leastSum_24 : decode cX1_leastSum 24 = .ok (.getfield 15, 3) := by decide +kernel
theorem dX1_leastSum_27 : decode cX1_leastSum 27 = .ok (.iload 4, 2) := by decide +kernel
theorem dX1_leastSum_29 : decode cX1_leastSum 29 = .ok (.iaload, 1) := by decide +kernel
theorem dX1_leastSum_30 : decode cX1_leastSum 30 = .ok (.aload_n 0, 1) := by decide +kernel
theorem dX1_leastSum_31 : decode cX1_leastSum 31 = .ok (.getfield 15, 3) := by decide +kernel
theorem dX1_leastSum_34 : decode cX1_leastSum 34 = .ok (.iload 4, 2) := by decide +kernel
theorem dX1_leastSum_36 : decode cX1_leastSum 36 = .ok (.iconst 1, 1) := by decide +kernel
theorem dX1_leastSum_37 : decode cX1_leastSum 37 = .ok (.iadd, 1) := by decide +kernel
theorem dX1_leastSum_38 : decode cX1_leastSum 38 = .ok (.iaload, 1) := by decide +kernel
theorem dX1_leastSum_39 : decode cX1_leastSum 39 = .ok (.isub, 1) := by decide +kernel
theorem dX1_leastSum_40 : decode cX1_leastSum 40 = .ok (.goto 4, 3) := by decide +kernel
theorem dX1_leastSum_43 : decode cX1_leastSum 43 = .ok (.iconst 0, 1) := by decide +kernel
theorem dX1_leastSum_44 : decode cX1_leastSum 44 = .ok (.istore 5, 2) := by decide +kernel
theorem dX1_leastSum_46 : decode cX1_leastSum 46 = .ok (.iload_n 2, 1) := by decide +kernel
theorem dX1_leastSum_47 : decode cX1_leastSum 47 = .ok (.aload_n 0, 1) := by decide +kernel
theorem dX1_leastSum_48 : decode cX1_leastSum 48 = .ok (.getfield 24, 3) := by decide +kernel
theorem dX1_leastSum_51 : decode cX1_leastSum 51 = .ok (.iload_n 1, 1) := by decide +kernel
theorem dX1_leastSum_52 : decode cX1_leastSum 52 = .ok (.iaload, 1) := by decide +kernel
theorem dX1_leastSum_53 : decode cX1_leastSum 53 = .ok (.iadd, 1) := by decide +kernel
theorem dX1_leastSum_54 : decode cX1_leastSum 54 = .ok (.istore 6, 2) := by decide +kernel
theorem dX1_leastSum_56 : decode cX1_leastSum 56 = .ok (.iload 5, 2) := by decide +kernel
theorem dX1_leastSum_58 : decode cX1_leastSum 58 = .ok (.aload_n 0, 1) := by decide +kernel
theorem dX1_leastSum_59 : decode cX1_leastSum 59 = .ok (.getfield 27, 3) := by decide +kernel
theorem dX1_leastSum_62 : decode cX1_leastSum 62 = .ok (.iload_n 1, 1) := by decide +kernel
theorem dX1_leastSum_63 : decode cX1_leastSum 63 = .ok (.baload, 1) := by decide +kernel
theorem dX1_leastSum_64 : decode cX1_leastSum 64 = .ok (.ifCond .eq 13, 3) := by decide +kernel
theorem dX1_leastSum_67 : decode cX1_leastSum 67 = .ok (.iload 4, 2) := by decide +kernel
theorem dX1_leastSum_69 : decode cX1_leastSum 69 = .ok (.aload_n 0, 1) := by decide +kernel
theorem dX1_leastSum_70 : decode cX1_leastSum 70 = .ok (.getfield 44, 3) := by decide +kernel
theorem dX1_leastSum_73 : decode cX1_leastSum 73 = .ok (.iadd, 1) := by decide +kernel
theorem dX1_leastSum_74 : decode cX1_leastSum 74 = .ok (.goto 5, 3) := by decide +kernel
theorem dX1_leastSum_77 : decode cX1_leastSum 77 = .ok (.iload 6, 2) := by decide +kernel
theorem dX1_leastSum_79 : decode cX1_leastSum 79 = .ok (.imul, 1) := by decide +kernel
theorem dX1_leastSum_80 : decode cX1_leastSum 80 = .ok (.istore 7, 2) := by decide +kernel
theorem dX1_leastSum_82 : decode cX1_leastSum 82 = .ok (.iload_n 2, 1) := by decide +kernel
theorem dX1_leastSum_83 : decode cX1_leastSum 83 = .ok (.bipush 60, 2) := by decide +kernel
theorem dX1_leastSum_85 : decode cX1_leastSum 85 = .ok (.if_icmp .lt 19, 3) := by decide +kernel
theorem dX1_leastSum_88 : decode cX1_leastSum 88 = .ok (.iload 7, 2) := by decide +kernel
theorem dX1_leastSum_90 : decode cX1_leastSum 90 = .ok (.aload_n 0, 1) := by decide +kernel
theorem dX1_leastSum_91 : decode cX1_leastSum 91 = .ok (.getfield 15, 3) := by decide +kernel
theorem dX1_leastSum_94 : decode cX1_leastSum 94 = .ok (.iload_n 3, 1) := by decide +kernel
theorem dX1_leastSum_95 : decode cX1_leastSum 95 = .ok (.iaload, 1) := by decide +kernel
theorem dX1_leastSum_96 : decode cX1_leastSum 96 = .ok (.iload 5, 2) := by decide +kernel
theorem dX1_leastSum_98 : decode cX1_leastSum 98 = .ok (.isub, 1) := by decide +kernel
theorem dX1_leastSum_99 : decode cX1_leastSum 99 = .ok (.iload 6, 2) := by decide +kernel
theorem dX1_leastSum_101 : decode cX1_leastSum 101 = .ok (.imul, 1) := by decide +kernel
theorem dX1_leastSum_102 : decode cX1_leastSum 102 = .ok (.iadd, 1) := by decide +kernel
theorem dX1_leastSum_103 : decode cX1_leastSum 103 = .ok (.ireturn, 1) := by decide +kernel
theorem dX1_leastSum_104 : decode cX1_leastSum 104 = .ok (.aload_n 0, 1) := by decide +kernel
theorem dX1_leastSum_105 : decode cX1_leastSum 105 = .ok (.iload_n 1, 1) := by decide +kernel
theorem dX1_leastSum_106 : decode cX1_leastSum 106 = .ok (.iload_n 2, 1) := by decide +kernel
theorem dX1_leastSum_107 : decode cX1_leastSum 107 = .ok (.iconst 1, 1) := by decide +kernel
theorem dX1_leastSum_108 : decode cX1_leastSum 108 = .ok (.iadd, 1) := by decide +kernel
theorem dX1_leastSum_109 : decode cX1_leastSum 109 = .ok (.iload_n 3, 1) := by decide +kernel
theorem dX1_leastSum_110 : decode cX1_leastSum 110 = .ok (.invokevirtual 70, 3) := by decide +kernel
theorem dX1_leastSum_113 : decode cX1_leastSum 113 = .ok (.istore 8, 2) := by decide +kernel
theorem dX1_leastSum_115 : decode cX1_leastSum 115 = .ok (.iload 7, 2) := by decide +kernel
theorem dX1_leastSum_117 : decode cX1_leastSum 117 = .ok (.aload_n 0, 1) := by decide +kernel
theorem dX1_leastSum_118 : decode cX1_leastSum 118 = .ok (.iload_n 1, 1) := by decide +kernel
theorem dX1_leastSum_119 : decode cX1_leastSum 119 = .ok (.iload_n 2, 1) := by decide +kernel
theorem dX1_leastSum_120 : decode cX1_leastSum 120 = .ok (.iconst 1, 1) := by decide +kernel
theorem dX1_leastSum_121 : decode cX1_leastSum 121 = .ok (.iadd, 1) := by decide +kernel
theorem dX1_leastSum_122 : decode cX1_leastSum 122 = .ok (.iload 8, 2) := by decide +kernel
theorem dX1_leastSum_124 : decode cX1_leastSum 124 = .ok (.invokevirtual 86, 3) := by decide +kernel
theorem dX1_leastSum_127 : decode cX1_leastSum 127 = .ok (.aload_n 0, 1) := by decide +kernel
theorem dX1_leastSum_128 : decode cX1_leastSum 128 = .ok (.iload_n 1, 1) := by decide +kernel
theorem dX1_leastSum_129 : decode cX1_leastSum 129 = .ok (.iload_n 2, 1) := by decide +kernel
theorem dX1_leastSum_130 : decode cX1_leastSum 130 = .ok (.iload 8, 2) := by decide +kernel
theorem dX1_leastSum_132 : decode cX1_leastSum 132 = .ok (.invokevirtual 83, 3) := by decide +kernel
theorem dX1_leastSum_135 : decode cX1_leastSum 135 = .ok (.invokestatic 94, 3) := by decide +kernel
theorem dX1_leastSum_138 : decode cX1_leastSum 138 = .ok (.iadd, 1) := by decide +kernel
theorem dX1_leastSum_139 : decode cX1_leastSum 139 = .ok (.ireturn, 1) := by decide +kernel
theorem xiX1_walkSum_X1 : GoodIn wsX1_walkSum wsX10 := goodIn_sub (fun _ h => List.mem_cons_of_mem _ (List.mem_append_right _ h)) xgwX1
set_option maxRecDepth 20000 in
theorem ggX1_walkSum_X1_boundAt : GoodIn wsX1_walkSum wsX1_boundAt := (goodIn_ca (goodIn_r _ [8, 9, 10, 11, 12, 13, 14, 15, 16] rfl (by decide +kernel)) xiX1_walkSum_X1)
set_option maxRecDepth 20000 in
theorem gX1_walkSum_X1_boundAt : GoodIn wsX1_walkSum (wsV RX1 70 RX1 yX1_boundAt wsX1_boundAt) := goodIn_app (goodIn_r _ [4, 5, 6, 7] rfl (by decide +kernel)) ggX1_walkSum_X1_boundAt
set_option maxRecDepth 20000 in
theorem ggX1_walkSum_X1_sumAt : GoodIn wsX1_walkSum wsX1_sumAt := (goodIn_ca (goodIn_r _ [20, 21, 2, 3, 22, 23, 24, 7, 25] rfl (by decide +kernel)) xiX1_walkSum_X1)
set_option maxRecDepth 20000 in
theorem gX1_walkSum_X1_sumAt : GoodIn wsX1_walkSum (wsV RX1 86 RX1 yX1_sumAt wsX1_sumAt) := goodIn_app (goodIn_r _ [17, 18, 19, 7] rfl (by decide +kernel)) ggX1_walkSum_X1_sumAt
theorem dX1_walkSum_0 : decode cX1_walkSum 0 = .ok (.iload_n 2, 1) := by decide +kernel
theorem dX1_walkSum_1 : decode cX1_walkSum 1 = .ok (.aload_n 0, 1) := by decide +kernel
theorem dX1_walkSum_2 : decode cX1_walkSum 2 = .ok (.getfield 21, 3) := by decide +kernel
theorem dX1_walkSum_5 : decode cX1_walkSum 5 = .ok (.iload_n 1, 1) := by decide +kernel
theorem dX1_walkSum_6 : decode cX1_walkSum 6 = .ok (.iaload, 1) := by decide +kernel
theorem dX1_walkSum_7 : decode cX1_walkSum 7 = .ok (.iadd, 1) := by decide +kernel
theorem dX1_walkSum_8 : decode cX1_walkSum 8 = .ok (.istore 4, 2) := by decide +kernel
theorem dX1_walkSum_10 : decode cX1_walkSum 10 = .ok (.aload_n 0, 1) := by decide +kernel
theorem dX1_walkSum_11 : decode cX1_walkSum 11 = .ok (.iload_n 1, 1) := by decide +kernel
theorem dX1_walkSum_12 : decode cX1_walkSum 12 = .ok (.iconst 1, 1) := by decide +kernel
theorem dX1_walkSum_13 : decode cX1_walkSum 13 = .ok (.iadd, 1) := by decide +kernel
theorem dX1_walkSum_14 : decode cX1_walkSum 14 = .ok (.iload 4, 2) := by decide +kernel
theorem dX1_walkSum_16 : decode cX1_walkSum 16 = .ok (.iload_n 3, 1) := by decide +kernel
theorem dX1_walkSum_17 : decode cX1_walkSum 17 = .ok (.invokevirtual 70, 3) := by decide +kernel
theorem dX1_walkSum_20 : decode cX1_walkSum 20 = .ok (.istore 5, 2) := by decide +kernel
theorem dX1_walkSum_22 : decode cX1_walkSum 22 = .ok (.aload_n 0, 1) := by decide +kernel
theorem dX1_walkSum_23 : decode cX1_walkSum 23 = .ok (.getfield 15, 3) := by decide +kernel
theorem dX1_walkSum_26 : decode cX1_walkSum 26 = .ok (.iload_n 3, 1) := by decide +kernel
theorem dX1_walkSum_27 : decode cX1_walkSum 27 = .ok (.iaload, 1) := by decide +kernel
theorem dX1_walkSum_28 : decode cX1_walkSum 28 = .ok (.aload_n 0, 1) := by decide +kernel
theorem dX1_walkSum_29 : decode cX1_walkSum 29 = .ok (.getfield 15, 3) := by decide +kernel
theorem dX1_walkSum_32 : decode cX1_walkSum 32 = .ok (.iload 5, 2) := by decide +kernel
theorem dX1_walkSum_34 : decode cX1_walkSum 34 = .ok (.iaload, 1) := by decide +kernel
theorem dX1_walkSum_35 : decode cX1_walkSum 35 = .ok (.isub, 1) := by decide +kernel
theorem dX1_walkSum_36 : decode cX1_walkSum 36 = .ok (.istore 6, 2) := by decide +kernel
theorem dX1_walkSum_38 : decode cX1_walkSum 38 = .ok (.iload 6, 2) := by decide +kernel
theorem dX1_walkSum_40 : decode cX1_walkSum 40 = .ok (.iload_n 2, 1) := by decide +kernel
theorem dX1_walkSum_41 : decode cX1_walkSum 41 = .ok (.aload_n 0, 1) := by decide +kernel
theorem dX1_walkSum_42 : decode cX1_walkSum 42 = .ok (.getfield 24, 3) := by decide +kernel
theorem dX1_walkSum_45 : decode cX1_walkSum 45 = .ok (.iload_n 1, 1) := by decide +kernel
theorem dX1_walkSum_46 : decode cX1_walkSum 46 = .ok (.iaload, 1) := by decide +kernel
theorem dX1_walkSum_47 : decode cX1_walkSum 47 = .ok (.iadd, 1) := by decide +kernel
theorem dX1_walkSum_48 : decode cX1_walkSum 48 = .ok (.imul, 1) := by decide +kernel
theorem dX1_walkSum_49 : decode cX1_walkSum 49 = .ok (.aload_n 0, 1) := by decide +kernel
theorem dX1_walkSum_50 : decode cX1_walkSum 50 = .ok (.iload_n 1, 1) := by decide +kernel
theorem dX1_walkSum_51 : decode cX1_walkSum 51 = .ok (.iconst 1, 1) := by decide +kernel
theorem dX1_walkSum_52 : decode cX1_walkSum 52 = .ok (.iadd, 1) := by decide +kernel
theorem dX1_walkSum_53 : decode cX1_walkSum 53 = .ok (.iload 4, 2) := by decide +kernel
theorem dX1_walkSum_55 : decode cX1_walkSum 55 = .ok (.iload 5, 2) := by decide +kernel
theorem dX1_walkSum_57 : decode cX1_walkSum 57 = .ok (.invokevirtual 86, 3) := by decide +kernel
theorem dX1_walkSum_60 : decode cX1_walkSum 60 = .ok (.iadd, 1) := by decide +kernel
theorem dX1_walkSum_61 : decode cX1_walkSum 61 = .ok (.ireturn, 1) := by decide +kernel
theorem xiX2_init_X0 : GoodIn wsX2_init wsX00 := goodIn_sub (fun _ h => List.mem_cons_of_mem _ (List.mem_append_right _ h)) xgwX0
set_option maxRecDepth 20000 in
theorem ggX2_init_X0_init : GoodIn wsX2_init wsX0_init := (goodIn_ca (goodIn_r _ [17, 18, 2, 3, 10, 19] rfl (by decide +kernel)) xiX2_init_X0)
set_option maxRecDepth 20000 in
theorem gX2_init_X0_init_n40 : GoodIn wsX2_init (wsX0_init) := ggX2_init_X0_init
theorem dX2_init_0 : decode cX2_init 0 = .ok (.aload_n 0, 1) := by decide +kernel
theorem dX2_init_1 : decode cX2_init 1 = .ok (.invokespecial 3, 3) := by decide +kernel
theorem dX2_init_4 : decode cX2_init 4 = .ok (.aload_n 0, 1) := by decide +kernel
theorem dX2_init_5 : decode cX2_init 5 = .ok (.iconst 1, 1) := by decide +kernel
theorem dX2_init_6 : decode cX2_init 6 = .ok (.putfield 9, 3) := by decide +kernel
theorem dX2_init_9 : decode cX2_init 9 = .ok (.aload_n 0, 1) := by decide +kernel
theorem dX2_init_10 : decode cX2_init 10 = .ok (.sipush 400, 3) := by decide +kernel
theorem dX2_init_13 : decode cX2_init 13 = .ok (.putfield 15, 3) := by decide +kernel
theorem dX2_init_16 : decode cX2_init 16 = .ok (.aload_n 0, 1) := by decide +kernel
theorem dX2_init_17 : decode cX2_init 17 = .ok (.bipush 80, 2) := by decide +kernel
theorem dX2_init_19 : decode cX2_init 19 = .ok (.putfield 18, 3) := by decide +kernel
theorem dX2_init_22 : decode cX2_init 22 = .ok (.aload_n 0, 1) := by decide +kernel
theorem dX2_init_23 : decode cX2_init 23 = .ok (.iconst 2, 1) := by decide +kernel
theorem dX2_init_24 : decode cX2_init 24 = .ok (.putfield 21, 3) := by decide +kernel
theorem dX2_init_27 : decode cX2_init 27 = .ok (.aload_n 0, 1) := by decide +kernel
theorem dX2_init_28 : decode cX2_init 28 = .ok (.bipush 30, 2) := by decide +kernel
theorem dX2_init_30 : decode cX2_init 30 = .ok (.putfield 24, 3) := by decide +kernel
theorem dX2_init_33 : decode cX2_init 33 = .ok (.aload_n 0, 1) := by decide +kernel
theorem dX2_init_34 : decode cX2_init 34 = .ok (.iconst 0, 1) := by decide +kernel
theorem dX2_init_35 : decode cX2_init 35 = .ok (.putfield 27, 3) := by decide +kernel
theorem dX2_init_38 : decode cX2_init 38 = .ok (.aload_n 0, 1) := by decide +kernel
theorem dX2_init_39 : decode cX2_init 39 = .ok (.bipush 7, 2) := by decide +kernel
theorem dX2_init_41 : decode cX2_init 41 = .ok (.newarray .int, 2) := by decide +kernel
theorem dX2_init_43 : decode cX2_init 43 = .ok (.putfield 30, 3) := by decide +kernel
theorem dX2_init_46 : decode cX2_init 46 = .ok (.aload_n 0, 1) := by decide +kernel
theorem dX2_init_47 : decode cX2_init 47 = .ok (.iconst 3, 1) := by decide +kernel
theorem dX2_init_48 : decode cX2_init 48 = .ok (.anewarray 34, 3) := by decide +kernel
theorem dX2_init_51 : decode cX2_init 51 = .ok (.putfield 36, 3) := by decide +kernel
theorem dX2_init_54 : decode cX2_init 54 = .ok (.iconst 0, 1) := by decide +kernel
theorem dX2_init_55 : decode cX2_init 55 = .ok (.istore_n 1, 1) := by decide +kernel
theorem dX2_init_56 : decode cX2_init 56 = .ok (.iload_n 1, 1) := by decide +kernel
theorem dX2_init_57 : decode cX2_init 57 = .ok (.iconst 3, 1) := by decide +kernel
theorem dX2_init_58 : decode cX2_init 58 = .ok (.if_icmp .ge 22, 3) := by decide +kernel
theorem dX2_init_61 : decode cX2_init 61 = .ok (.aload_n 0, 1) := by decide +kernel
theorem dX2_init_62 : decode cX2_init 62 = .ok (.getfield 36, 3) := by decide +kernel
theorem dX2_init_65 : decode cX2_init 65 = .ok (.iload_n 1, 1) := by decide +kernel
theorem dX2_init_66 : decode cX2_init 66 = .ok (.new 34, 3) := by decide +kernel
theorem dX2_init_69 : decode cX2_init 69 = .ok (.dup, 1) := by decide +kernel
theorem dX2_init_70 : decode cX2_init 70 = .ok (.invokespecial 40, 3) := by decide +kernel
theorem dX2_init_73 : decode cX2_init 73 = .ok (.aastore, 1) := by decide +kernel
theorem dX2_init_74 : decode cX2_init 74 = .ok (.iinc 1 1, 3) := by decide +kernel
theorem dX2_init_77 : decode cX2_init 77 = .ok (.goto (-21), 3) := by decide +kernel
theorem dX2_init_80 : decode cX2_init 80 = .ok (.return_, 1) := by decide +kernel
theorem xiX2_become_X0 : GoodIn wsX2_become wsX00 := goodIn_sub (fun _ h => List.mem_cons_of_mem _ (List.mem_append_right _ h)) xgwX0
set_option maxRecDepth 20000 in
theorem ggX2_become_X0_become : GoodIn wsX2_become wsX0_become := (goodIn_ca (goodIn_r _ [17, 18, 19, 20, 21, 22, 9, 10, 11] rfl (by decide +kernel)) xiX2_become_X0)
set_option maxRecDepth 20000 in
theorem gX2_become_X0_become : GoodIn wsX2_become (wsV RX2 47 RX0 yX0_become wsX0_become) := goodIn_app (goodIn_r _ [13, 14, 15, 16] rfl (by decide +kernel)) ggX2_become_X0_become
theorem dX2_become_0 : decode cX2_become 0 = .ok (.aload_n 0, 1) := by decide +kernel
theorem dX2_become_1 : decode cX2_become 1 = .ok (.aload_n 1, 1) := by decide +kernel
theorem dX2_become_2 : decode cX2_become 2 = .ok (.getfield 9, 3) := by decide +kernel
theorem dX2_become_5 : decode cX2_become 5 = .ok (.putfield 9, 3) := by decide +kernel
theorem dX2_become_8 : decode cX2_become 8 = .ok (.aload_n 0, 1) := by decide +kernel
theorem dX2_become_9 : decode cX2_become 9 = .ok (.aload_n 1, 1) := by decide +kernel
theorem dX2_become_10 : decode cX2_become 10 = .ok (.getfield 15, 3) := by decide +kernel
theorem dX2_become_13 : decode cX2_become 13 = .ok (.putfield 15, 3) := by decide +kernel
theorem dX2_become_16 : decode cX2_become 16 = .ok (.aload_n 0, 1) := by decide +kernel
theorem dX2_become_17 : decode cX2_become 17 = .ok (.aload_n 1, 1) := by decide +kernel
theorem dX2_become_18 : decode cX2_become 18 = .ok (.getfield 18, 3) := by decide +kernel
theorem dX2_become_21 : decode cX2_become 21 = .ok (.putfield 18, 3) := by decide +kernel
theorem dX2_become_24 : decode cX2_become 24 = .ok (.aload_n 0, 1) := by decide +kernel
theorem dX2_become_25 : decode cX2_become 25 = .ok (.aload_n 1, 1) := by decide +kernel
theorem dX2_become_26 : decode cX2_become 26 = .ok (.getfield 21, 3) := by decide +kernel
theorem dX2_become_29 : decode cX2_become 29 = .ok (.putfield 21, 3) := by decide +kernel
theorem dX2_become_32 : decode cX2_become 32 = .ok (.aload_n 0, 1) := by decide +kernel
theorem dX2_become_33 : decode cX2_become 33 = .ok (.aload_n 1, 1) := by decide +kernel
theorem dX2_become_34 : decode cX2_become 34 = .ok (.getfield 24, 3) := by decide +kernel
theorem dX2_become_37 : decode cX2_become 37 = .ok (.putfield 24, 3) := by decide +kernel
theorem dX2_become_40 : decode cX2_become 40 = .ok (.aload_n 0, 1) := by decide +kernel
theorem dX2_become_41 : decode cX2_become 41 = .ok (.aload_n 1, 1) := by decide +kernel
theorem dX2_become_42 : decode cX2_become 42 = .ok (.getfield 27, 3) := by decide +kernel
theorem dX2_become_45 : decode cX2_become 45 = .ok (.putfield 27, 3) := by decide +kernel
theorem dX2_become_48 : decode cX2_become 48 = .ok (.aload_n 1, 1) := by decide +kernel
theorem dX2_become_49 : decode cX2_become 49 = .ok (.getfield 30, 3) := by decide +kernel
theorem dX2_become_52 : decode cX2_become 52 = .ok (.iconst 0, 1) := by decide +kernel
theorem dX2_become_53 : decode cX2_become 53 = .ok (.aload_n 0, 1) := by decide +kernel
theorem dX2_become_54 : decode cX2_become 54 = .ok (.getfield 30, 3) := by decide +kernel
theorem dX2_become_57 : decode cX2_become 57 = .ok (.iconst 0, 1) := by decide +kernel
theorem dX2_become_58 : decode cX2_become 58 = .ok (.bipush 7, 2) := by decide +kernel
theorem dX2_become_60 : decode cX2_become 60 = .ok (.invokestatic 41, 3) := by decide +kernel
theorem dX2_become_63 : decode cX2_become 63 = .ok (.iconst 0, 1) := by decide +kernel
theorem dX2_become_64 : decode cX2_become 64 = .ok (.istore_n 2, 1) := by decide +kernel
theorem dX2_become_65 : decode cX2_become 65 = .ok (.iload_n 2, 1) := by decide +kernel
theorem dX2_become_66 : decode cX2_become 66 = .ok (.iconst 3, 1) := by decide +kernel
theorem dX2_become_67 : decode cX2_become 67 = .ok (.if_icmp .ge 24, 3) := by decide +kernel
theorem dX2_become_70 : decode cX2_become 70 = .ok (.aload_n 0, 1) := by decide +kernel
theorem dX2_become_71 : decode cX2_become 71 = .ok (.getfield 36, 3) := by decide +kernel
theorem dX2_become_74 : decode cX2_become 74 = .ok (.iload_n 2, 1) := by decide +kernel
theorem dX2_become_75 : decode cX2_become 75 = .ok (.aaload, 1) := by decide +kernel
theorem dX2_become_76 : decode cX2_become 76 = .ok (.aload_n 1, 1) := by decide +kernel
theorem dX2_become_77 : decode cX2_become 77 = .ok (.getfield 36, 3) := by decide +kernel
theorem dX2_become_80 : decode cX2_become 80 = .ok (.iload_n 2, 1) := by decide +kernel
theorem dX2_become_81 : decode cX2_become 81 = .ok (.aaload, 1) := by decide +kernel
theorem dX2_become_82 : decode cX2_become 82 = .ok (.invokevirtual 47, 3) := by decide +kernel
theorem dX2_become_85 : decode cX2_become 85 = .ok (.iinc 2 1, 3) := by decide +kernel
theorem dX2_become_88 : decode cX2_become 88 = .ok (.goto (-23), 3) := by decide +kernel
theorem dX2_become_91 : decode cX2_become 91 = .ok (.return_, 1) := by decide +kernel
theorem dX2_least_0 : decode cX2_least 0 = .ok (.iload_n 0, 1) := by decide +kernel
theorem dX2_least_1 : decode cX2_least 1 = .ok (.lookupswitch 32 #[(1, 27), (3, 30)], 27) := by decide +kernel
theorem dX2_least_28 : decode cX2_least 28 = .ok (.bipush 20, 2) := by decide +kernel
theorem dX2_least_30 : decode cX2_least 30 = .ok (.ireturn, 1) := by decide +kernel
theorem dX2_least_31 : decode cX2_least 31 = .ok (.iconst 1, 1) := by decide +kernel
theorem dX2_least_32 : decode cX2_least 32 = .ok (.ireturn, 1) := by decide +kernel
theorem dX2_least_33 : decode cX2_least 33 = .ok (.iconst 0, 1) := by decide +kernel
theorem dX2_least_34 : decode cX2_least 34 = .ok (.ireturn, 1) := by decide +kernel
theorem dX2_most_0 : decode cX2_most 0 = .ok (.iload_n 0, 1) := by decide +kernel
theorem dX2_most_1 : decode cX2_most 1 = .ok (.tableswitch 38 0 2 #[27, 31, 35], 27) := by decide +kernel
theorem dX2_most_28 : decode cX2_most 28 = .ok (.sipush 999, 3) := by decide +kernel
theorem dX2_most_31 : decode cX2_most 31 = .ok (.ireturn, 1) := by decide +kernel
theorem dX2_most_32 : decode cX2_most 32 = .ok (.sipush 200, 3) := by decide +kernel
theorem dX2_most_35 : decode cX2_most 35 = .ok (.ireturn, 1) := by decide +kernel
theorem dX2_most_36 : decode cX2_most 36 = .ok (.bipush 9, 2) := by decide +kernel
theorem dX2_most_38 : decode cX2_most 38 = .ok (.ireturn, 1) := by decide +kernel
theorem dX2_most_39 : decode cX2_most 39 = .ok (.bipush 60, 2) := by decide +kernel
theorem dX2_most_41 : decode cX2_most 41 = .ok (.ireturn, 1) := by decide +kernel
theorem dX2_setting_0 : decode cX2_setting 0 = .ok (.iload_n 1, 1) := by decide +kernel
theorem dX2_setting_1 : decode cX2_setting 1 = .ok (.tableswitch 42 0 2 #[27, 32, 37], 27) := by decide +kernel
theorem dX2_setting_28 : decode cX2_setting 28 = .ok (.aload_n 0, 1) := by decide +kernel
theorem dX2_setting_29 : decode cX2_setting 29 = .ok (.getfield 15, 3) := by decide +kernel
theorem dX2_setting_32 : decode cX2_setting 32 = .ok (.ireturn, 1) := by decide +kernel
theorem dX2_setting_33 : decode cX2_setting 33 = .ok (.aload_n 0, 1) := by decide +kernel
theorem dX2_setting_34 : decode cX2_setting 34 = .ok (.getfield 18, 3) := by decide +kernel
theorem dX2_setting_37 : decode cX2_setting 37 = .ok (.ireturn, 1) := by decide +kernel
theorem dX2_setting_38 : decode cX2_setting 38 = .ok (.aload_n 0, 1) := by decide +kernel
theorem dX2_setting_39 : decode cX2_setting 39 = .ok (.getfield 21, 3) := by decide +kernel
theorem dX2_setting_42 : decode cX2_setting 42 = .ok (.ireturn, 1) := by decide +kernel
theorem dX2_setting_43 : decode cX2_setting 43 = .ok (.aload_n 0, 1) := by decide +kernel
theorem dX2_setting_44 : decode cX2_setting 44 = .ok (.getfield 24, 3) := by decide +kernel
theorem dX2_setting_47 : decode cX2_setting 47 = .ok (.ireturn, 1) := by decide +kernel
set_option maxRecDepth 20000 in
theorem ggX2_change_X2_least : GoodIn wsX2_change wsX2_least := goodIn_r _ [8] rfl (by decide +kernel)
set_option maxRecDepth 20000 in
theorem gX2_change_X2_least : GoodIn wsX2_change (va_wsS RX2 51 yX2_least wsX2_least) := goodIn_app (goodIn_r _ [5, 6, 7] rfl (by decide +kernel)) ggX2_change_X2_least
set_option maxRecDepth 20000 in
theorem ggX2_change_X2_most : GoodIn wsX2_change wsX2_most := goodIn_r _ [11] rfl (by decide +kernel)
set_option maxRecDepth 20000 in
theorem gX2_change_X2_most : GoodIn wsX2_change (va_wsS RX2 55 yX2_most wsX2_most) := goodIn_app (goodIn_r _ [9, 10, 7] rfl (by decide +kernel)) ggX2_change_X2_most
theorem dX2_change_0 : decode cX2_change 0 = .ok (.iload_n 2, 1) := by decide +kernel
theorem dX2_change_1 : decode cX2_change 1 = .ok (.iload_n 1, 1) := by decide +kernel
theorem dX2_change_2 : decode cX2_change 2 = .ok (.invokestatic 51, 3) := by decide +kernel
theorem dX2_change_5 : decode cX2_change 5 = .ok (.if_icmp .lt 11, 3) := by decide +kernel
theorem dX2_change_8 : decode cX2_change 8 = .ok (.iload_n 2, 1) := by decide +kernel
theorem dX2_change_9 : decode cX2_change 9 = .ok (.iload_n 1, 1) := by decide +kernel
theorem dX2_change_10 : decode cX2_change 10 = .ok (.invokestatic 55, 3) := by decide +kernel
theorem dX2_change_13 : decode cX2_change 13 = .ok (.if_icmp .le 5, 3) := by decide +kernel
theorem dX2_change_16 : decode cX2_change 16 = .ok (.iconst 0, 1) := by decide +kernel
theorem dX2_change_17 : decode cX2_change 17 = .ok (.ireturn, 1) := by decide +kernel
theorem dX2_change_18 : decode cX2_change 18 = .ok (.iload_n 1, 1) := by decide +kernel
theorem dX2_change_19 : decode cX2_change 19 = .ok (.tableswitch 49 0 2 #[25, 33, 41], 25) := by decide +kernel
theorem dX2_change_44 : decode cX2_change 44 = .ok (.aload_n 0, 1) := by decide +kernel
theorem dX2_change_45 : decode cX2_change 45 = .ok (.iload_n 2, 1) := by decide +kernel
theorem dX2_change_46 : decode cX2_change 46 = .ok (.putfield 15, 3) := by decide +kernel
theorem dX2_change_49 : decode cX2_change 49 = .ok (.goto 24, 3) := by decide +kernel
theorem dX2_change_52 : decode cX2_change 52 = .ok (.aload_n 0, 1) := by decide +kernel
theorem dX2_change_53 : decode cX2_change 53 = .ok (.iload_n 2, 1) := by decide +kernel
theorem dX2_change_54 : decode cX2_change 54 = .ok (.putfield 18, 3) := by decide +kernel
theorem dX2_change_57 : decode cX2_change 57 = .ok (.goto 16, 3) := by decide +kernel
theorem dX2_change_60 : decode cX2_change 60 = .ok (.aload_n 0, 1) := by decide +kernel
theorem dX2_change_61 : decode cX2_change 61 = .ok (.iload_n 2, 1) := by decide +kernel
theorem dX2_change_62 : decode cX2_change 62 = .ok (.putfield 21, 3) := by decide +kernel
theorem dX2_change_65 : decode cX2_change 65 = .ok (.goto 8, 3) := by decide +kernel
theorem dX2_change_68 : decode cX2_change 68 = .ok (.aload_n 0, 1) := by decide +kernel
theorem dX2_change_69 : decode cX2_change 69 = .ok (.iload_n 2, 1) := by decide +kernel
theorem dX2_change_70 : decode cX2_change 70 = .ok (.putfield 24, 3) := by decide +kernel
theorem dX2_change_73 : decode cX2_change 73 = .ok (.iconst 1, 1) := by decide +kernel
theorem dX2_change_74 : decode cX2_change 74 = .ok (.ireturn, 1) := by decide +kernel
theorem dX2_addStop_0 : decode cX2_addStop 0 = .ok (.iload_n 1, 1) := by decide +kernel
theorem dX2_addStop_1 : decode cX2_addStop 1 = .ok (.iconst 1, 1) := by decide +kernel
theorem dX2_addStop_2 : decode cX2_addStop 2 = .ok (.if_icmp .lt 19, 3) := by decide +kernel
theorem dX2_addStop_5 : decode cX2_addStop 5 = .ok (.iload_n 1, 1) := by decide +kernel
theorem dX2_addStop_6 : decode cX2_addStop 6 = .ok (.sipush 999, 3) := by decide +kernel
theorem dX2_addStop_9 : decode cX2_addStop 9 = .ok (.if_icmp .gt 12, 3) := by decide +kernel
theorem dX2_addStop_12 : decode cX2_addStop 12 = .ok (.aload_n 0, 1) := by decide +kernel
theorem dX2_addStop_13 : decode cX2_addStop 13 = .ok (.getfield 9, 3) := by decide +kernel
theorem dX2_addStop_16 : decode cX2_addStop 16 = .ok (.bipush 7, 2) := by decide +kernel
theorem dX2_addStop_18 : decode cX2_addStop 18 = .ok (.if_icmp .lt 5, 3) := by decide +kernel
theorem dX2_addStop_21 : decode cX2_addStop 21 = .ok (.iconst 0, 1) := by decide +kernel
theorem dX2_addStop_22 : decode cX2_addStop 22 = .ok (.ireturn, 1) := by decide +kernel
theorem dX2_addStop_23 : decode cX2_addStop 23 = .ok (.aload_n 0, 1) := by decide +kernel
theorem dX2_addStop_24 : decode cX2_addStop 24 = .ok (.getfield 30, 3) := by decide +kernel
theorem dX2_addStop_27 : decode cX2_addStop 27 = .ok (.aload_n 0, 1) := by decide +kernel
theorem dX2_addStop_28 : decode cX2_addStop 28 = .ok (.getfield 9, 3) := by decide +kernel
theorem dX2_addStop_31 : decode cX2_addStop 31 = .ok (.iload_n 1, 1) := by decide +kernel
theorem dX2_addStop_32 : decode cX2_addStop 32 = .ok (.iastore, 1) := by decide +kernel
theorem dX2_addStop_33 : decode cX2_addStop 33 = .ok (.aload_n 0, 1) := by decide +kernel
theorem dX2_addStop_34 : decode cX2_addStop 34 = .ok (.dup, 1) := by decide +kernel
theorem dX2_addStop_35 : decode cX2_addStop 35 = .ok (.getfield 9, 3) := by decide +kernel
theorem dX2_addStop_38 : decode cX2_addStop 38 = .ok (.iconst 1, 1) := by decide +kernel
theorem dX2_addStop_39 : decode cX2_addStop 39 = .ok (.iadd, 1) := by decide +kernel
theorem dX2_addStop_40 : decode cX2_addStop 40 = .ok (.putfield 9, 3) := by decide +kernel
theorem dX2_addStop_43 : decode cX2_addStop 43 = .ok (.iconst 1, 1) := by decide +kernel
theorem dX2_addStop_44 : decode cX2_addStop 44 = .ok (.ireturn, 1) := by decide +kernel
theorem dX2_last_0 : decode cX2_last 0 = .ok (.aload_n 0, 1) := by decide +kernel
theorem dX2_last_1 : decode cX2_last 1 = .ok (.getfield 9, 3) := by decide +kernel
theorem dX2_last_4 : decode cX2_last 4 = .ok (.iconst 1, 1) := by decide +kernel
theorem dX2_last_5 : decode cX2_last 5 = .ok (.isub, 1) := by decide +kernel
theorem dX2_last_6 : decode cX2_last 6 = .ok (.ireturn, 1) := by decide +kernel
theorem dX2_yards_0 : decode cX2_yards 0 = .ok (.aload_n 0, 1) := by decide +kernel
theorem dX2_yards_1 : decode cX2_yards 1 = .ok (.getfield 15, 3) := by decide +kernel
theorem dX2_yards_4 : decode cX2_yards 4 = .ok (.istore_n 1, 1) := by decide +kernel
theorem dX2_yards_5 : decode cX2_yards 5 = .ok (.iconst 1, 1) := by decide +kernel
theorem dX2_yards_6 : decode cX2_yards 6 = .ok (.istore_n 2, 1) := by decide +kernel
theorem dX2_yards_7 : decode cX2_yards 7 = .ok (.iload_n 2, 1) := by decide +kernel
theorem dX2_yards_8 : decode cX2_yards 8 = .ok (.aload_n 0, 1) := by decide +kernel
theorem dX2_yards_9 : decode cX2_yards 9 = .ok (.getfield 9, 3) := by decide +kernel
theorem dX2_yards_12 : decode cX2_yards 12 = .ok (.if_icmp .ge 18, 3) := by decide +kernel
theorem dX2_yards_15 : decode cX2_yards 15 = .ok (.iload_n 1, 1) := by decide +kernel
theorem dX2_yards_16 : decode cX2_yards 16 = .ok (.aload_n 0, 1) := by decide +kernel
theorem dX2_yards_17 : decode cX2_yards 17 = .ok (.getfield 30, 3) := by decide +kernel
theorem dX2_yards_20 : decode cX2_yards 20 = .ok (.iload_n 2, 1) := by decide +kernel
theorem dX2_yards_21 : decode cX2_yards 21 = .ok (.iaload, 1) := by decide +kernel
theorem dX2_yards_22 : decode cX2_yards 22 = .ok (.iadd, 1) := by decide +kernel
theorem dX2_yards_23 : decode cX2_yards 23 = .ok (.istore_n 1, 1) := by decide +kernel
theorem dX2_yards_24 : decode cX2_yards 24 = .ok (.iinc 2 1, 3) := by decide +kernel
theorem dX2_yards_27 : decode cX2_yards 27 = .ok (.goto (-20), 3) := by decide +kernel
theorem dX2_yards_30 : decode cX2_yards 30 = .ok (.iload_n 1, 1) := by decide +kernel
theorem dX2_yards_31 : decode cX2_yards 31 = .ok (.ireturn, 1) := by decide +kernel
theorem dX2_yardsFrom_0 : decode cX2_yardsFrom 0 = .ok (.iload_n 1, 1) := by decide +kernel
theorem dX2_yardsFrom_1 : decode cX2_yardsFrom 1 = .ok (.ifCond .lt 24, 3) := by decide +kernel
theorem dX2_yardsFrom_4 : decode cX2_yardsFrom 4 = .ok (.iload_n 1, 1) := by decide +kernel
theorem dX2_yardsFrom_5 : decode cX2_yardsFrom 5 = .ok (.aload_n 0, 1) := by decide +kernel
theorem dX2_yardsFrom_6 : decode cX2_yardsFrom 6 = .ok (.getfield 9, 3) := by decide +kernel
theorem dX2_yardsFrom_9 : decode cX2_yardsFrom 9 = .ok (.iconst 1, 1) := by decide +kernel
theorem dX2_yardsFrom_10 : decode cX2_yardsFrom 10 = .ok (.isub, 1) := by decide +kernel
theorem dX2_yardsFrom_11 : decode cX2_yardsFrom 11 = .ok (.if_icmp .ge 14, 3) := by decide +kernel
theorem dX2_yardsFrom_14 : decode cX2_yardsFrom 14 = .ok (.aload_n 0, 1) := by decide +kernel
theorem dX2_yardsFrom_15 : decode cX2_yardsFrom 15 = .ok (.getfield 30, 3) := by decide +kernel
theorem dX2_yardsFrom_18 : decode cX2_yardsFrom 18 = .ok (.iload_n 1, 1) := by decide +kernel
theorem dX2_yardsFrom_19 : decode cX2_yardsFrom 19 = .ok (.iconst 1, 1) := by decide +kernel
theorem dX2_yardsFrom_20 : decode cX2_yardsFrom 20 = .ok (.iadd, 1) := by decide +kernel
theorem dX2_yardsFrom_21 : decode cX2_yardsFrom 21 = .ok (.iaload, 1) := by decide +kernel
theorem dX2_yardsFrom_22 : decode cX2_yardsFrom 22 = .ok (.goto 7, 3) := by decide +kernel
theorem dX2_yardsFrom_25 : decode cX2_yardsFrom 25 = .ok (.aload_n 0, 1) := by decide +kernel
theorem dX2_yardsFrom_26 : decode cX2_yardsFrom 26 = .ok (.getfield 15, 3) := by decide +kernel
theorem dX2_yardsFrom_29 : decode cX2_yardsFrom 29 = .ok (.ireturn, 1) := by decide +kernel
theorem xiX2_wayFrom_X2 : GoodIn wsX2_wayFrom wsX20 := goodIn_sub (fun _ h => List.mem_cons_of_mem _ (List.mem_append_right _ h)) xgwX2
set_option maxRecDepth 20000 in
theorem ggX2_wayFrom_X2_yardsFrom : GoodIn wsX2_wayFrom wsX2_yardsFrom := (goodIn_ca (goodIn_r _ [5, 6, 7, 8] rfl (by decide +kernel)) xiX2_wayFrom_X2)
set_option maxRecDepth 20000 in
theorem gX2_wayFrom_X2_yardsFrom : GoodIn wsX2_wayFrom (wsV RX2 58 RX2 yX2_yardsFrom wsX2_yardsFrom) := goodIn_app (goodIn_r _ [1, 2, 3, 4] rfl (by decide +kernel)) ggX2_wayFrom_X2_yardsFrom
theorem dX2_wayFrom_0 : decode cX2_wayFrom 0 = .ok (.iload_n 2, 1) := by decide +kernel
theorem dX2_wayFrom_1 : decode cX2_wayFrom 1 = .ok (.iconst 1, 1) := by decide +kernel
theorem dX2_wayFrom_2 : decode cX2_wayFrom 2 = .ok (.if_icmp .ge 7, 3) := by decide +kernel
theorem dX2_wayFrom_5 : decode cX2_wayFrom 5 = .ok (.iconst 0, 1) := by decide +kernel
theorem dX2_wayFrom_6 : decode cX2_wayFrom 6 = .ok (.goto 14, 3) := by decide +kernel
theorem dX2_wayFrom_9 : decode cX2_wayFrom 9 = .ok (.aload_n 0, 1) := by decide +kernel
theorem dX2_wayFrom_10 : decode cX2_wayFrom 10 = .ok (.iload_n 1, 1) := by decide +kernel
theorem dX2_wayFrom_11 : decode cX2_wayFrom 11 = .ok (.invokevirtual 58, 3) := by decide +kernel
theorem dX2_wayFrom_14 : decode cX2_wayFrom 14 = .ok (.iload_n 2, 1) := by decide +kernel
theorem dX2_wayFrom_15 : decode cX2_wayFrom 15 = .ok (.iadd, 1) := by decide +kernel
theorem dX2_wayFrom_16 : decode cX2_wayFrom 16 = .ok (.iconst 1, 1) := by decide +kernel
theorem dX2_wayFrom_17 : decode cX2_wayFrom 17 = .ok (.isub, 1) := by decide +kernel
theorem dX2_wayFrom_18 : decode cX2_wayFrom 18 = .ok (.iload_n 2, 1) := by decide +kernel
theorem dX2_wayFrom_19 : decode cX2_wayFrom 19 = .ok (.idiv, 1) := by decide +kernel
theorem dX2_wayFrom_20 : decode cX2_wayFrom 20 = .ok (.ireturn, 1) := by decide +kernel
theorem xiX2_walkHome_X2 : GoodIn wsX2_walkHome wsX20 := goodIn_sub (fun _ h => List.mem_cons_of_mem _ (List.mem_append_right _ h)) xgwX2
set_option maxRecDepth 20000 in
theorem ggX2_walkHome_X2_wayFrom : GoodIn wsX2_walkHome wsX2_wayFrom := (goodIn_ca (goodIn_r _ [7, 8, 9, 10, 6, 11, 1, 12, 13] rfl (by decide +kernel)) xiX2_walkHome_X2)
set_option maxRecDepth 20000 in
theorem gX2_walkHome_X2_wayFrom : GoodIn wsX2_walkHome (wsV RX2 61 RX2 yX2_wayFrom wsX2_wayFrom) := goodIn_app (goodIn_r _ [3, 4, 5, 6] rfl (by decide +kernel)) ggX2_walkHome_X2_wayFrom
theorem dX2_walkHome_0 : decode cX2_walkHome 0 = .ok (.iconst 0, 1) := by decide +kernel
theorem dX2_walkHome_1 : decode cX2_walkHome 1 = .ok (.istore_n 2, 1) := by decide +kernel
theorem dX2_walkHome_2 : decode cX2_walkHome 2 = .ok (.iload_n 1, 1) := by decide +kernel
theorem dX2_walkHome_3 : decode cX2_walkHome 3 = .ok (.istore_n 3, 1) := by decide +kernel
theorem dX2_walkHome_4 : decode cX2_walkHome 4 = .ok (.iload_n 3, 1) := by decide +kernel
theorem dX2_walkHome_5 : decode cX2_walkHome 5 = .ok (.aload_n 0, 1) := by decide +kernel
theorem dX2_walkHome_6 : decode cX2_walkHome 6 = .ok (.getfield 9, 3) := by decide +kernel
theorem dX2_walkHome_9 : decode cX2_walkHome 9 = .ok (.if_icmp .ge 21, 3) := by decide +kernel
theorem dX2_walkHome_12 : decode cX2_walkHome 12 = .ok (.iload_n 2, 1) := by decide +kernel
theorem dX2_walkHome_13 : decode cX2_walkHome 13 = .ok (.aload_n 0, 1) := by decide +kernel
theorem dX2_walkHome_14 : decode cX2_walkHome 14 = .ok (.iload_n 3, 1) := by decide +kernel
theorem dX2_walkHome_15 : decode cX2_walkHome 15 = .ok (.aload_n 0, 1) := by decide +kernel
theorem dX2_walkHome_16 : decode cX2_walkHome 16 = .ok (.getfield 18, 3) := by decide +kernel
theorem dX2_walkHome_19 : decode cX2_walkHome 19 = .ok (.invokevirtual 61, 3) := by decide +kernel
theorem dX2_walkHome_22 : decode cX2_walkHome 22 = .ok (.iadd, 1) := by decide +kernel
theorem dX2_walkHome_23 : decode cX2_walkHome 23 = .ok (.istore_n 2, 1) := by decide +kernel
theorem dX2_walkHome_24 : decode cX2_walkHome 24 = .ok (.iinc 3 1, 3) := by decide +kernel
theorem dX2_walkHome_27 : decode cX2_walkHome 27 = .ok (.goto (-23), 3) := by decide +kernel
theorem dX2_walkHome_30 : decode cX2_walkHome 30 = .ok (.iload_n 2, 1) := by decide +kernel
theorem dX2_walkHome_31 : decode cX2_walkHome 31 = .ok (.ireturn, 1) := by decide +kernel
theorem xiX2_rideHome_X2 : GoodIn wsX2_rideHome wsX20 := goodIn_sub (fun _ h => List.mem_cons_of_mem _ (List.mem_append_left _ (List.mem_append_right _ h))) xgwX2
set_option maxRecDepth 20000 in
theorem ggX2_rideHome_X2_last : GoodIn wsX2_rideHome wsX2_last := (goodIn_ca (goodIn_r _ [6, 7] rfl (by decide +kernel)) xiX2_rideHome_X2)
set_option maxRecDepth 20000 in
theorem gX2_rideHome_X2_last : GoodIn wsX2_rideHome (wsV RX2 65 RX2 yX2_last wsX2_last) := goodIn_app (goodIn_r _ [2, 3, 4, 5] rfl (by decide +kernel)) ggX2_rideHome_X2_last
theorem xiX2_rideHome_X0 : GoodIn wsX2_rideHome wsX00 := goodIn_sub (fun _ h => List.mem_cons_of_mem _ (List.mem_append_right _ h)) xgwX0
set_option maxRecDepth 20000 in
theorem ggX2_rideHome_X0_rideTo : GoodIn wsX2_rideHome wsX0_rideTo := (goodIn_ca (goodIn_r _ [12, 13, 14] rfl (by decide +kernel)) xiX2_rideHome_X0)
set_option maxRecDepth 20000 in
theorem gX2_rideHome_X0_rideTo : GoodIn wsX2_rideHome (wsV RX2 69 RX0 yX0_rideTo wsX0_rideTo) := goodIn_app (goodIn_r _ [8, 9, 10, 11] rfl (by decide +kernel)) ggX2_rideHome_X0_rideTo
set_option maxRecDepth 20000 in
theorem ggX2_rideHome_X2_wayFrom : GoodIn wsX2_rideHome wsX2_wayFrom := (goodIn_ca (goodIn_r _ [18, 19, 20, 21, 5, 22, 7, 23, 24] rfl (by decide +kernel)) xiX2_rideHome_X2)
set_option maxRecDepth 20000 in
theorem gX2_rideHome_X2_wayFrom : GoodIn wsX2_rideHome (wsV RX2 61 RX2 yX2_wayFrom wsX2_wayFrom) := goodIn_app (goodIn_r _ [15, 16, 17, 5] rfl (by decide +kernel)) ggX2_rideHome_X2_wayFrom
theorem dX2_rideHome_0 : decode cX2_rideHome 0 = .ok (.aload_n 1, 1) := by decide +kernel
theorem dX2_rideHome_1 : decode cX2_rideHome 1 = .ok (.aload_n 0, 1) := by decide +kernel
theorem dX2_rideHome_2 : decode cX2_rideHome 2 = .ok (.invokevirtual 65, 3) := by decide +kernel
theorem dX2_rideHome_5 : decode cX2_rideHome 5 = .ok (.invokevirtual 69, 3) := by decide +kernel
theorem dX2_rideHome_8 : decode cX2_rideHome 8 = .ok (.aload_n 0, 1) := by decide +kernel
theorem dX2_rideHome_9 : decode cX2_rideHome 9 = .ok (.aload_n 0, 1) := by decide +kernel
theorem dX2_rideHome_10 : decode cX2_rideHome 10 = .ok (.invokevirtual 65, 3) := by decide +kernel
theorem dX2_rideHome_13 : decode cX2_rideHome 13 = .ok (.aload_n 0, 1) := by decide +kernel
theorem dX2_rideHome_14 : decode cX2_rideHome 14 = .ok (.getfield 18, 3) := by decide +kernel
theorem dX2_rideHome_17 : decode cX2_rideHome 17 = .ok (.invokevirtual 61, 3) := by decide +kernel
theorem dX2_rideHome_20 : decode cX2_rideHome 20 = .ok (.iadd, 1) := by decide +kernel
theorem dX2_rideHome_21 : decode cX2_rideHome 21 = .ok (.ireturn, 1) := by decide +kernel
theorem dX3_init_0 : decode cX3_init 0 = .ok (.aload_n 0, 1) := by decide +kernel
theorem dX3_init_1 : decode cX3_init 1 = .ok (.invokespecial 3, 3) := by decide +kernel
theorem dX3_init_4 : decode cX3_init 4 = .ok (.aload_n 0, 1) := by decide +kernel
theorem dX3_init_5 : decode cX3_init 5 = .ok (.bipush 96, 2) := by decide +kernel
theorem dX3_init_7 : decode cX3_init 7 = .ok (.newarray .int, 2) := by decide +kernel
theorem dX3_init_9 : decode cX3_init 9 = .ok (.putfield 9, 3) := by decide +kernel
theorem dX3_init_12 : decode cX3_init 12 = .ok (.aload_n 0, 1) := by decide +kernel
theorem dX3_init_13 : decode cX3_init 13 = .ok (.iconst 0, 1) := by decide +kernel
theorem dX3_init_14 : decode cX3_init 14 = .ok (.putfield 15, 3) := by decide +kernel
theorem dX3_init_17 : decode cX3_init 17 = .ok (.return_, 1) := by decide +kernel
theorem dX3_add_0 : decode cX3_add 0 = .ok (.aload_n 0, 1) := by decide +kernel
theorem dX3_add_1 : decode cX3_add 1 = .ok (.getfield 15, 3) := by decide +kernel
theorem dX3_add_4 : decode cX3_add 4 = .ok (.bipush 96, 2) := by decide +kernel
theorem dX3_add_6 : decode cX3_add 6 = .ok (.if_icmp .ge 23, 3) := by decide +kernel
theorem dX3_add_9 : decode cX3_add 9 = .ok (.aload_n 0, 1) := by decide +kernel
theorem dX3_add_10 : decode cX3_add 10 = .ok (.getfield 9, 3) := by decide +kernel
theorem dX3_add_13 : decode cX3_add 13 = .ok (.aload_n 0, 1) := by decide +kernel
theorem dX3_add_14 : decode cX3_add 14 = .ok (.getfield 15, 3) := by decide +kernel
theorem dX3_add_17 : decode cX3_add 17 = .ok (.iload_n 1, 1) := by decide +kernel
theorem dX3_add_18 : decode cX3_add 18 = .ok (.iastore, 1) := by decide +kernel
theorem dX3_add_19 : decode cX3_add 19 = .ok (.aload_n 0, 1) := by decide +kernel
theorem dX3_add_20 : decode cX3_add 20 = .ok (.dup, 1) := by decide +kernel
theorem dX3_add_21 : decode cX3_add 21 = .ok (.getfield 15, 3) := by decide +kernel
theorem dX3_add_24 : decode cX3_add 24 = .ok (.iconst 1, 1) := by decide +kernel
theorem dX3_add_25 : decode cX3_add 25 = .ok (.iadd, 1) := by decide +kernel
theorem dX3_add_26 : decode cX3_add 26 = .ok (.putfield 15, 3) := by decide +kernel
theorem dX3_add_29 : decode cX3_add 29 = .ok (.return_, 1) := by decide +kernel
theorem xiX3_readOnto_X3 : GoodIn wsX3_readOnto wsX30 := goodIn_sub (fun _ h => List.mem_cons_of_mem _ (List.mem_append_left _ (List.mem_append_left _ (List.mem_append_right _ h)))) xgwX3
set_option maxRecDepth 20000 in
theorem ggX3_readOnto_X3_firstWrongPlace : GoodIn wsX3_readOnto wsX3_firstWrongPlace := (goodIn_ca (goodIn_r _ [6, 1, 7, 8, 9, 5, 10, 11, 12, 13, 14, 15, 16, 17, 18, 19, 20, 21, 22, 23, 24, 25, 26, 27, 28, 29, 30, 31, 32, 33, 34, 35, 36, 37, 38, 39, 40, 41, 42, 43, 44, 45, 46, 47, 48, 49, 50, 51, 52, 53, 54, 55, 56, 57, 58, 59, 60, 61, 62, 63, 64, 65, 66, 67, 68, 69, 70, 71, 72, 73, 74, 75, 76, 77, 78, 79, 80, 81, 82, 83, 84, 85, 86, 87, 88, 89, 90, 91, 92, 93, 94, 95, 96, 97, 98, 99, 100, 101, 102, 103, 104, 105, 106, 107, 108, 109, 110, 111, 112, 113, 114, 115, 116, 117, 118, 119, 120, 121, 122, 123, 124, 125, 126] rfl (by decide +kernel)) xiX3_readOnto_X3)
set_option maxRecDepth 20000 in
theorem gX3_readOnto_X3_firstWrongPlace : GoodIn wsX3_readOnto (wsV RX3 19 RX3 yX3_firstWrongPlace wsX3_firstWrongPlace) := goodIn_app (goodIn_r _ [2, 3, 4, 5] rfl (by decide +kernel)) ggX3_readOnto_X3_firstWrongPlace
theorem xiX3_readOnto_X2 : GoodIn wsX3_readOnto wsX20 := goodIn_sub (fun _ h => List.mem_cons_of_mem _ (List.mem_append_left _ (List.mem_append_right _ h))) xgwX2
theorem xiX3_readOnto_X0 : GoodIn wsX3_readOnto wsX00 := goodIn_sub (fun _ h => List.mem_cons_of_mem _ (List.mem_append_right _ h)) xgwX0
set_option maxRecDepth 20000 in
theorem ggX3_readOnto_X3_takeStatement : GoodIn wsX3_readOnto wsX3_takeStatement := (goodIn_ca (goodIn_ca (goodIn_ca (goodIn_r _ [130, 11, 12, 13, 5, 14, 1, 15, 131, 132, 133, 134, 19, 20, 21, 22, 116, 117, 118, 119, 120, 121, 122, 123, 135, 136, 137, 138, 139, 140, 141, 142, 143, 144, 145, 146, 147, 148, 149, 150, 151, 152, 153, 154, 155, 156, 157, 158, 159, 160, 161, 162, 163, 164, 165, 166, 167, 168, 169, 23, 24, 25, 26, 27, 28, 29, 30, 31, 32, 33, 34, 35, 36, 37, 38, 39, 40, 41, 42, 43, 44, 45, 46, 47, 48, 49, 50, 51, 52, 53, 54, 55, 56, 57, 58, 59, 60, 61, 62, 63, 64, 65, 66, 67, 68, 69, 70, 71, 72, 73, 74, 75, 76, 77, 78, 79, 80, 81, 82, 83, 84, 85, 86, 87, 88, 89, 90, 91, 92, 93, 94, 95, 96, 97, 98, 99, 100, 101, 102, 103, 104, 105, 106, 107, 108, 109, 110, 111, 112, 113, 114, 115, 170, 171, 172, 173, 174, 175, 176, 177, 178, 179, 180] rfl (by decide +kernel)) xiX3_readOnto_X3) xiX3_readOnto_X2) xiX3_readOnto_X0)
set_option maxRecDepth 20000 in
theorem gX3_readOnto_X3_takeStatement : GoodIn wsX3_readOnto (wsV RX3 23 RX3 yX3_takeStatement wsX3_takeStatement) := goodIn_app (goodIn_r _ [127, 128, 129, 5] rfl (by decide +kernel)) ggX3_readOnto_X3_takeStatement
set_option maxRecDepth 20000 in
theorem ggX3_readOnto_X3_digitsEnd : GoodIn wsX3_readOnto wsX3_digitsEnd := (goodIn_ca (goodIn_r _ [119, 1, 19, 20, 21, 5, 22, 11, 12, 13, 14, 15, 120, 121, 122, 123] rfl (by decide +kernel)) xiX3_readOnto_X3)
set_option maxRecDepth 20000 in
theorem gX3_readOnto_X3_digitsEnd : GoodIn wsX3_readOnto (wsV RX3 27 RX3 yX3_digitsEnd wsX3_digitsEnd) := goodIn_app (goodIn_r _ [116, 117, 118, 5] rfl (by decide +kernel)) ggX3_readOnto_X3_digitsEnd
theorem dX3_readOnto_0 : decode cX3_readOnto 0 = .ok (.aload_n 0, 1) := by decide +kernel
theorem dX3_readOnto_1 : decode cX3_readOnto 1 = .ok (.invokevirtual 19, 3) := by decide +kernel
theorem dX3_readOnto_4 : decode cX3_readOnto 4 = .ok (.istore_n 2, 1) := by decide +kernel
theorem dX3_readOnto_5 : decode cX3_readOnto 5 = .ok (.iload_n 2, 1) := by decide +kernel
theorem dX3_readOnto_6 : decode cX3_readOnto 6 = .ok (.ifCond .lt 9, 3) := by decide +kernel
theorem dX3_readOnto_9 : decode cX3_readOnto 9 = .ok (.sipush (-1000), 3) := by decide +kernel
theorem dX3_readOnto_12 : decode cX3_readOnto 12 = .ok (.iload_n 2, 1) := by decide +kernel
theorem dX3_readOnto_13 : decode cX3_readOnto 13 = .ok (.isub, 1) := by decide +kernel
theorem dX3_readOnto_14 : decode cX3_readOnto 14 = .ok (.ireturn, 1) := by decide +kernel
theorem dX3_readOnto_15 : decode cX3_readOnto 15 = .ok (.iconst 0, 1) := by decide +kernel
theorem dX3_readOnto_16 : decode cX3_readOnto 16 = .ok (.istore_n 3, 1) := by decide +kernel
theorem dX3_readOnto_17 : decode cX3_readOnto 17 = .ok (.iconst 0, 1) := by decide +kernel
theorem dX3_readOnto_18 : decode cX3_readOnto 18 = .ok (.istore 4, 2) := by decide +kernel
theorem dX3_readOnto_20 : decode cX3_readOnto 20 = .ok (.iconst 0, 1) := by decide +kernel
theorem dX3_readOnto_21 : decode cX3_readOnto 21 = .ok (.istore 5, 2) := by decide +kernel
theorem dX3_readOnto_23 : decode cX3_readOnto 23 = .ok (.iload 5, 2) := by decide +kernel
theorem dX3_readOnto_25 : decode cX3_readOnto 25 = .ok (.aload_n 0, 1) := by decide +kernel
theorem dX3_readOnto_26 : decode cX3_readOnto 26 = .ok (.getfield 15, 3) := by decide +kernel
theorem dX3_readOnto_29 : decode cX3_readOnto 29 = .ok (.if_icmp .ge 43, 3) := by decide +kernel
theorem dX3_readOnto_32 : decode cX3_readOnto 32 = .ok (.iload_n 3, 1) := by decide +kernel
theorem dX3_readOnto_33 : decode cX3_readOnto 33 = .ok (.aload_n 0, 1) := by decide +kernel
theorem dX3_readOnto_34 : decode cX3_readOnto 34 = .ok (.getfield 15, 3) := by decide +kernel
theorem dX3_readOnto_37 : decode cX3_readOnto 37 = .ok (.if_icmp .ge 35, 3) := by decide +kernel
theorem dX3_readOnto_40 : decode cX3_readOnto 40 = .ok (.aload_n 0, 1) := by decide +kernel
theorem dX3_readOnto_41 : decode cX3_readOnto 41 = .ok (.aload_n 1, 1) := by decide +kernel
theorem dX3_readOnto_42 : decode cX3_readOnto 42 = .ok (.iload_n 3, 1) := by decide +kernel
theorem dX3_readOnto_43 : decode cX3_readOnto 43 = .ok (.invokevirtual 23, 3) := by decide +kernel
theorem dX3_readOnto_46 : decode cX3_readOnto 46 = .ok (.ifCond .ne 9, 3) := by decide +kernel
theorem dX3_readOnto_49 : decode cX3_readOnto 49 = .ok (.sipush (-2000), 3) := by decide +kernel
theorem dX3_readOnto_52 : decode cX3_readOnto 52 = .ok (.iload_n 3, 1) := by decide +kernel
theorem dX3_readOnto_53 : decode cX3_readOnto 53 = .ok (.isub, 1) := by decide +kernel
theorem dX3_readOnto_54 : decode cX3_readOnto 54 = .ok (.ireturn, 1) := by decide +kernel
theorem dX3_readOnto_55 : decode cX3_readOnto 55 = .ok (.aload_n 0, 1) := by decide +kernel
theorem dX3_readOnto_56 : decode cX3_readOnto 56 = .ok (.iload_n 3, 1) := by decide +kernel
theorem dX3_readOnto_57 : decode cX3_readOnto 57 = .ok (.invokevirtual 27, 3) := by decide +kernel
theorem dX3_readOnto_60 : decode cX3_readOnto 60 = .ok (.iconst 1, 1) := by decide +kernel
theorem dX3_readOnto_61 : decode cX3_readOnto 61 = .ok (.iadd, 1) := by decide +kernel
theorem dX3_readOnto_62 : decode cX3_readOnto 62 = .ok (.istore_n 3, 1) := by decide +kernel
theorem dX3_readOnto_63 : decode cX3_readOnto 63 = .ok (.iinc 4 1, 3) := by decide +kernel
theorem dX3_readOnto_66 : decode cX3_readOnto 66 = .ok (.iinc 5 1, 3) := by decide +kernel
theorem dX3_readOnto_69 : decode cX3_readOnto 69 = .ok (.goto (-46), 3) := by decide +kernel
theorem dX3_readOnto_72 : decode cX3_readOnto 72 = .ok (.iload 4, 2) := by decide +kernel
theorem dX3_readOnto_74 : decode cX3_readOnto 74 = .ok (.ireturn, 1) := by decide +kernel
theorem xiX3_firstWrongPlace_X3 : GoodIn wsX3_firstWrongPlace wsX30 := goodIn_sub (fun _ h => List.mem_cons_of_mem _ (List.mem_append_right _ h)) xgwX3
set_option maxRecDepth 20000 in
theorem ggX3_firstWrongPlace_X3_wrongPlace : GoodIn wsX3_firstWrongPlace wsX3_wrongPlace := (goodIn_ca (goodIn_r _ [6, 7, 8, 9, 5, 10, 1, 11, 12, 13, 14, 15, 16, 17, 18, 19, 20, 21, 22, 23, 24, 25, 26, 27, 28, 29, 30, 31, 32, 33, 34, 35, 36, 37, 38, 39, 40, 41, 42, 43, 44, 45, 46, 47, 48, 49, 50, 51, 52, 53, 54, 55, 56, 57, 58, 59, 60, 61, 62, 63, 64, 65, 66, 67, 68, 69, 70, 71, 72, 73, 74, 75, 76, 77, 78, 79, 80, 81, 82, 83, 84, 85, 86, 87, 88, 89, 90, 91, 92, 93, 94, 95, 96, 97, 98, 99, 100, 101, 102, 103, 104, 105, 106, 107, 108, 109, 110, 111, 112, 113, 114, 115, 116, 117, 118, 119, 120, 121, 122] rfl (by decide +kernel)) xiX3_firstWrongPlace_X3)
set_option maxRecDepth 20000 in
theorem gX3_firstWrongPlace_X3_wrongPlace : GoodIn wsX3_firstWrongPlace (wsV RX3 31 RX3 yX3_wrongPlace wsX3_wrongPlace) := goodIn_app (goodIn_r _ [2, 3, 4, 5] rfl (by decide +kernel)) ggX3_firstWrongPlace_X3_wrongPlace
set_option maxRecDepth 20000 in
theorem ggX3_firstWrongPlace_X3_digitsEnd : GoodIn wsX3_firstWrongPlace wsX3_digitsEnd := (goodIn_ca (goodIn_r _ [115, 1, 15, 16, 17, 5, 18, 7, 8, 9, 10, 11, 116, 117, 118, 119] rfl (by decide +kernel)) xiX3_firstWrongPlace_X3)
set_option maxRecDepth 20000 in
theorem gX3_firstWrongPlace_X3_digitsEnd : GoodIn wsX3_firstWrongPlace (wsV RX3 27 RX3 yX3_digitsEnd wsX3_digitsEnd) := goodIn_app (goodIn_r _ [112, 113, 114, 5] rfl (by decide +kernel)) ggX3_firstWrongPlace_X3_digitsEnd
theorem dX3_firstWrongPlace_0 : decode cX3_firstWrongPlace 0 = .ok (.aload_n 0, 1) := by decide +kernel
theorem dX3_firstWrongPlace_1 : decode cX3_firstWrongPlace 1 = .ok (.iconst 0, 1) := by decide +kernel
theorem dX3_firstWrongPlace_2 : decode cX3_firstWrongPlace 2 = .ok (.invokevirtual 31, 3) := by decide +kernel
theorem dX3_firstWrongPlace_5 : decode cX3_firstWrongPlace 5 = .ok (.istore_n 1, 1) := by decide +kernel
theorem dX3_firstWrongPlace_6 : decode cX3_firstWrongPlace 6 = .ok (.aload_n 0, 1) := by decide +kernel
theorem dX3_firstWrongPlace_7 : decode cX3_firstWrongPlace 7 = .ok (.iconst 0, 1) := by decide +kernel
theorem dX3_firstWrongPlace_8 : decode cX3_firstWrongPlace 8 = .ok (.invokevirtual 27, 3) := by decide +kernel
theorem dX3_firstWrongPlace_11 : decode cX3_firstWrongPlace 11 = .ok (.iconst 1, 1) := by decide +kernel
theorem dX3_firstWrongPlace_12 : decode cX3_firstWrongPlace 12 = .ok (.iadd, 1) := by decide +kernel
theorem dX3_firstWrongPlace_13 : decode cX3_firstWrongPlace 13 = .ok (.istore_n 2, 1) := by decide +kernel
theorem dX3_firstWrongPlace_14 : decode cX3_firstWrongPlace 14 = .ok (.iconst 0, 1) := by decide +kernel
theorem dX3_firstWrongPlace_15 : decode cX3_firstWrongPlace 15 = .ok (.istore_n 3, 1) := by decide +kernel
theorem dX3_firstWrongPlace_16 : decode cX3_firstWrongPlace 16 = .ok (.iload_n 3, 1) := by decide +kernel
theorem dX3_firstWrongPlace_17 : decode cX3_firstWrongPlace 17 = .ok (.aload_n 0, 1) := by decide +kernel
theorem dX3_firstWrongPlace_18 : decode cX3_firstWrongPlace 18 = .ok (.getfield 15, 3) := by decide +kernel
theorem dX3_firstWrongPlace_21 : decode cX3_firstWrongPlace 21 = .ok (.if_icmp .ge 35, 3) := by decide +kernel
theorem dX3_firstWrongPlace_24 : decode cX3_firstWrongPlace 24 = .ok (.iload_n 2, 1) := by decide +kernel
theorem dX3_firstWrongPlace_25 : decode cX3_firstWrongPlace 25 = .ok (.aload_n 0, 1) := by decide +kernel
theorem dX3_firstWrongPlace_26 : decode cX3_firstWrongPlace 26 = .ok (.getfield 15, 3) := by decide +kernel
theorem dX3_firstWrongPlace_29 : decode cX3_firstWrongPlace 29 = .ok (.if_icmp .ge 27, 3) := by decide +kernel
theorem dX3_firstWrongPlace_32 : decode cX3_firstWrongPlace 32 = .ok (.iload_n 1, 1) := by decide +kernel
theorem dX3_firstWrongPlace_33 : decode cX3_firstWrongPlace 33 = .ok (.ifCond .ge 23, 3) := by decide +kernel
theorem dX3_firstWrongPlace_36 : decode cX3_firstWrongPlace 36 = .ok (.aload_n 0, 1) := by decide +kernel
theorem dX3_firstWrongPlace_37 : decode cX3_firstWrongPlace 37 = .ok (.iload_n 2, 1) := by decide +kernel
theorem dX3_firstWrongPlace_38 : decode cX3_firstWrongPlace 38 = .ok (.invokevirtual 31, 3) := by decide +kernel
theorem dX3_firstWrongPlace_41 : decode cX3_firstWrongPlace 41 = .ok (.istore_n 1, 1) := by decide +kernel
theorem dX3_firstWrongPlace_42 : decode cX3_firstWrongPlace 42 = .ok (.aload_n 0, 1) := by decide +kernel
theorem dX3_firstWrongPlace_43 : decode cX3_firstWrongPlace 43 = .ok (.iload_n 2, 1) := by decide +kernel
theorem dX3_firstWrongPlace_44 : decode cX3_firstWrongPlace 44 = .ok (.invokevirtual 27, 3) := by decide +kernel
theorem dX3_firstWrongPlace_47 : decode cX3_firstWrongPlace 47 = .ok (.iconst 1, 1) := by decide +kernel
theorem dX3_firstWrongPlace_48 : decode cX3_firstWrongPlace 48 = .ok (.iadd, 1) := by decide +kernel
theorem dX3_firstWrongPlace_49 : decode cX3_firstWrongPlace 49 = .ok (.istore_n 2, 1) := by decide +kernel
theorem dX3_firstWrongPlace_50 : decode cX3_firstWrongPlace 50 = .ok (.iinc 3 1, 3) := by decide +kernel
theorem dX3_firstWrongPlace_53 : decode cX3_firstWrongPlace 53 = .ok (.goto (-37), 3) := by decide +kernel
theorem dX3_firstWrongPlace_56 : decode cX3_firstWrongPlace 56 = .ok (.iload_n 1, 1) := by decide +kernel
theorem dX3_firstWrongPlace_57 : decode cX3_firstWrongPlace 57 = .ok (.ireturn, 1) := by decide +kernel
theorem dX3_at_0 : decode cX3_at 0 = .ok (.iload_n 1, 1) := by decide +kernel
theorem dX3_at_1 : decode cX3_at 1 = .ok (.ifCond .lt 20, 3) := by decide +kernel
theorem dX3_at_4 : decode cX3_at 4 = .ok (.iload_n 1, 1) := by decide +kernel
theorem dX3_at_5 : decode cX3_at 5 = .ok (.aload_n 0, 1) := by decide +kernel
theorem dX3_at_6 : decode cX3_at 6 = .ok (.getfield 15, 3) := by decide +kernel
theorem dX3_at_9 : decode cX3_at 9 = .ok (.if_icmp .ge 12, 3) := by decide +kernel
theorem dX3_at_12 : decode cX3_at 12 = .ok (.aload_n 0, 1) := by decide +kernel
theorem dX3_at_13 : decode cX3_at 13 = .ok (.getfield 9, 3) := by decide +kernel
theorem dX3_at_16 : decode cX3_at 16 = .ok (.iload_n 1, 1) := by decide +kernel
theorem dX3_at_17 : decode cX3_at 17 = .ok (.iaload, 1) := by decide +kernel
theorem dX3_at_18 : decode cX3_at 18 = .ok (.goto 4, 3) := by decide +kernel
theorem dX3_at_21 : decode cX3_at 21 = .ok (.iconst (-1), 1) := by decide +kernel
theorem dX3_at_22 : decode cX3_at 22 = .ok (.ireturn, 1) := by decide +kernel
theorem xiX3_isDigit_X3 : GoodIn wsX3_isDigit wsX30 := goodIn_sub (fun _ h => List.mem_cons_of_mem _ (List.mem_append_right _ h)) xgwX3
set_option maxRecDepth 20000 in
theorem ggX3_isDigit_X3_at : GoodIn wsX3_isDigit wsX3_at := (goodIn_ca (goodIn_r _ [5, 6, 7] rfl (by decide +kernel)) xiX3_isDigit_X3)
set_option maxRecDepth 20000 in
theorem gX3_isDigit_X3_at : GoodIn wsX3_isDigit (wsV RX3 34 RX3 yX3_at wsX3_at) := goodIn_app (goodIn_r _ [1, 2, 3, 4] rfl (by decide +kernel)) ggX3_isDigit_X3_at
theorem dX3_isDigit_0 : decode cX3_isDigit 0 = .ok (.aload_n 0, 1) := by decide +kernel
theorem dX3_isDigit_1 : decode cX3_isDigit 1 = .ok (.iload_n 1, 1) := by decide +kernel
theorem dX3_isDigit_2 : decode cX3_isDigit 2 = .ok (.invokevirtual 34, 3) := by decide +kernel
theorem dX3_isDigit_5 : decode cX3_isDigit 5 = .ok (.bipush 48, 2) := by decide +kernel
theorem dX3_isDigit_7 : decode cX3_isDigit 7 = .ok (.if_icmp .lt 17, 3) := by decide +kernel
theorem dX3_isDigit_10 : decode cX3_isDigit 10 = .ok (.aload_n 0, 1) := by decide +kernel
theorem dX3_isDigit_11 : decode cX3_isDigit 11 = .ok (.iload_n 1, 1) := by decide +kernel
theorem dX3_isDigit_12 : decode cX3_isDigit 12 = .ok (.invokevirtual 34, 3) := by decide +kernel
theorem dX3_isDigit_15 : decode cX3_isDigit 15 = .ok (.bipush 57, 2) := by decide +kernel
theorem dX3_isDigit_17 : decode cX3_isDigit 17 = .ok (.if_icmp .gt 7, 3) := by decide +kernel
theorem dX3_isDigit_20 : decode cX3_isDigit 20 = .ok (.iconst 1, 1) := by decide +kernel
theorem dX3_isDigit_21 : decode cX3_isDigit 21 = .ok (.goto 4, 3) := by decide +kernel
theorem dX3_isDigit_24 : decode cX3_isDigit 24 = .ok (.iconst 0, 1) := by decide +kernel
theorem dX3_isDigit_25 : decode cX3_isDigit 25 = .ok (.ireturn, 1) := by decide +kernel
theorem xiX3_wrongPlace_X3 : GoodIn wsX3_wrongPlace wsX30 := goodIn_sub (fun _ h => List.mem_cons_of_mem _ (List.mem_append_right _ h)) xgwX3
set_option maxRecDepth 20000 in
theorem ggX3_wrongPlace_X3_at : GoodIn wsX3_wrongPlace wsX3_at := (goodIn_ca (goodIn_r _ [5, 6, 7] rfl (by decide +kernel)) xiX3_wrongPlace_X3)
set_option maxRecDepth 20000 in
theorem gX3_wrongPlace_X3_at : GoodIn wsX3_wrongPlace (wsV RX3 34 RX3 yX3_at wsX3_at) := goodIn_app (goodIn_r _ [1, 2, 3, 4] rfl (by decide +kernel)) ggX3_wrongPlace_X3_at
set_option maxRecDepth 20000 in
theorem ggX3_wrongPlace_X3_mostDigits : GoodIn wsX3_wrongPlace wsX3_mostDigits := goodIn_r _ [10] rfl (by decide +kernel)
set_option maxRecDepth 20000 in
theorem gX3_wrongPlace_X3_mostDigits : GoodIn wsX3_wrongPlace (va_wsS RX3 37 yX3_mostDigits wsX3_mostDigits) := goodIn_app (goodIn_r _ [8, 9, 4] rfl (by decide +kernel)) ggX3_wrongPlace_X3_mostDigits
set_option maxRecDepth 20000 in
theorem ggX3_wrongPlace_X3_digitsPlace : GoodIn wsX3_wrongPlace wsX3_digitsPlace := (goodIn_ca (goodIn_r _ [14, 1, 2, 3, 4, 5, 6, 7] rfl (by decide +kernel)) xiX3_wrongPlace_X3)
set_option maxRecDepth 20000 in
theorem gX3_wrongPlace_X3_digitsPlace : GoodIn wsX3_wrongPlace (wsV RX3 40 RX3 yX3_digitsPlace wsX3_digitsPlace) := goodIn_app (goodIn_r _ [11, 12, 13, 4] rfl (by decide +kernel)) ggX3_wrongPlace_X3_digitsPlace
set_option maxRecDepth 20000 in
theorem ggX3_wrongPlace_X3_kindAt : GoodIn wsX3_wrongPlace wsX3_kindAt := (goodIn_ca (goodIn_r _ [18, 1, 2, 3, 4, 5, 6, 7, 19, 20, 21, 22, 23, 24, 25, 26, 27, 28, 29, 30, 31, 32, 33, 34, 35, 36, 37, 38, 39, 40, 41, 42, 43, 44, 45, 46, 47, 48, 49, 50, 51, 52, 53, 54, 55, 56, 57, 58, 59, 60, 61, 62, 63, 64, 65, 66, 67, 68, 69, 70, 71, 72, 73, 74, 75, 76, 77, 78, 79, 80, 81, 82, 83, 84, 85, 86, 87, 88, 89, 90, 91, 92, 93, 94, 95, 96, 97, 98, 99, 100, 101, 102, 103, 104, 105, 106, 107] rfl (by decide +kernel)) xiX3_wrongPlace_X3)
set_option maxRecDepth 20000 in
theorem gX3_wrongPlace_X3_kindAt : GoodIn wsX3_wrongPlace (wsV RX3 43 RX3 yX3_kindAt wsX3_kindAt) := goodIn_app (goodIn_r _ [15, 16, 17, 4] rfl (by decide +kernel)) ggX3_wrongPlace_X3_kindAt
set_option maxRecDepth 20000 in
theorem ggX3_wrongPlace_X3_digitsEnd : GoodIn wsX3_wrongPlace wsX3_digitsEnd := (goodIn_ca (goodIn_r _ [111, 6, 11, 12, 13, 4, 14, 1, 2, 3, 5, 7, 112, 113, 114, 115] rfl (by decide +kernel)) xiX3_wrongPlace_X3)
set_option maxRecDepth 20000 in
theorem gX3_wrongPlace_X3_digitsEnd : GoodIn wsX3_wrongPlace (wsV RX3 27 RX3 yX3_digitsEnd wsX3_digitsEnd) := goodIn_app (goodIn_r _ [108, 109, 110, 4] rfl (by decide +kernel)) ggX3_wrongPlace_X3_digitsEnd
set_option maxRecDepth 20000 in
theorem ggX3_wrongPlace_X3_leastDigits : GoodIn wsX3_wrongPlace wsX3_leastDigits := goodIn_r _ [118] rfl (by decide +kernel)
set_option maxRecDepth 20000 in
theorem gX3_wrongPlace_X3_leastDigits : GoodIn wsX3_wrongPlace (va_wsS RX3 46 yX3_leastDigits wsX3_leastDigits) := goodIn_app (goodIn_r _ [116, 117, 4] rfl (by decide +kernel)) ggX3_wrongPlace_X3_leastDigits
theorem dX3_wrongPlace_0 : decode cX3_wrongPlace 0 = .ok (.aload_n 0, 1) := by decide +kernel
theorem dX3_wrongPlace_1 : decode cX3_wrongPlace 1 = .ok (.iload_n 1, 1) := by decide +kernel
theorem dX3_wrongPlace_2 : decode cX3_wrongPlace 2 = .ok (.invokevirtual 34, 3) := by decide +kernel
theorem dX3_wrongPlace_5 : decode cX3_wrongPlace 5 = .ok (.invokestatic 37, 3) := by decide +kernel
theorem dX3_wrongPlace_8 : decode cX3_wrongPlace 8 = .ok (.istore_n 2, 1) := by decide +kernel
theorem dX3_wrongPlace_9 : decode cX3_wrongPlace 9 = .ok (.iload_n 2, 1) := by decide +kernel
theorem dX3_wrongPlace_10 : decode cX3_wrongPlace 10 = .ok (.ifCond .ne 5, 3) := by decide +kernel
theorem dX3_wrongPlace_13 : decode cX3_wrongPlace 13 = .ok (.iload_n 1, 1) := by decide +kernel
theorem dX3_wrongPlace_14 : decode cX3_wrongPlace 14 = .ok (.ireturn, 1) := by decide +kernel
theorem dX3_wrongPlace_15 : decode cX3_wrongPlace 15 = .ok (.aload_n 0, 1) := by decide +kernel
theorem dX3_wrongPlace_16 : decode cX3_wrongPlace 16 = .ok (.iload_n 1, 1) := by decide +kernel
theorem dX3_wrongPlace_17 : decode cX3_wrongPlace 17 = .ok (.invokevirtual 40, 3) := by decide +kernel
theorem dX3_wrongPlace_20 : decode cX3_wrongPlace 20 = .ok (.istore_n 3, 1) := by decide +kernel
theorem dX3_wrongPlace_21 : decode cX3_wrongPlace 21 = .ok (.iload_n 3, 1) := by decide +kernel
theorem dX3_wrongPlace_22 : decode cX3_wrongPlace 22 = .ok (.iload_n 1, 1) := by decide +kernel
theorem dX3_wrongPlace_23 : decode cX3_wrongPlace 23 = .ok (.iconst 1, 1) := by decide +kernel
theorem dX3_wrongPlace_24 : decode cX3_wrongPlace 24 = .ok (.iadd, 1) := by decide +kernel
theorem dX3_wrongPlace_25 : decode cX3_wrongPlace 25 = .ok (.if_icmp .le 17, 3) := by decide +kernel
theorem dX3_wrongPlace_28 : decode cX3_wrongPlace 28 = .ok (.aload_n 0, 1) := by decide +kernel
theorem dX3_wrongPlace_29 : decode cX3_wrongPlace 29 = .ok (.iload_n 1, 1) := by decide +kernel
theorem dX3_wrongPlace_30 : decode cX3_wrongPlace 30 = .ok (.iconst 1, 1) := by decide +kernel
theorem dX3_wrongPlace_31 : decode cX3_wrongPlace 31 = .ok (.iadd, 1) := by decide +kernel
theorem dX3_wrongPlace_32 : decode cX3_wrongPlace 32 = .ok (.invokevirtual 43, 3) := by decide +kernel
theorem dX3_wrongPlace_35 : decode cX3_wrongPlace 35 = .ok (.ifCond .ge 7, 3) := by decide +kernel
theorem dX3_wrongPlace_38 : decode cX3_wrongPlace 38 = .ok (.iload_n 1, 1) := by decide +kernel
theorem dX3_wrongPlace_39 : decode cX3_wrongPlace 39 = .ok (.iconst 1, 1) := by decide +kernel
theorem dX3_wrongPlace_40 : decode cX3_wrongPlace 40 = .ok (.iadd, 1) := by decide +kernel
theorem dX3_wrongPlace_41 : decode cX3_wrongPlace 41 = .ok (.ireturn, 1) := by decide +kernel
theorem dX3_wrongPlace_42 : decode cX3_wrongPlace 42 = .ok (.aload_n 0, 1) := by decide +kernel
theorem dX3_wrongPlace_43 : decode cX3_wrongPlace 43 = .ok (.iload_n 1, 1) := by decide +kernel
theorem dX3_wrongPlace_44 : decode cX3_wrongPlace 44 = .ok (.invokevirtual 27, 3) := by decide +kernel
theorem dX3_wrongPlace_47 : decode cX3_wrongPlace 47 = .ok (.istore 4, 2) := by decide +kernel
theorem dX3_wrongPlace_49 : decode cX3_wrongPlace 49 = .ok (.iload 4, 2) := by decide +kernel
theorem dX3_wrongPlace_51 : decode cX3_wrongPlace 51 = .ok (.iload_n 3, 1) := by decide +kernel
theorem dX3_wrongPlace_52 : decode cX3_wrongPlace 52 = .ok (.isub, 1) := by decide +kernel
theorem dX3_wrongPlace_53 : decode cX3_wrongPlace 53 = .ok (.iload_n 2, 1) := by decide +kernel
theorem dX3_wrongPlace_54 : decode cX3_wrongPlace 54 = .ok (.if_icmp .le 7, 3) := by decide +kernel
theorem dX3_wrongPlace_57 : decode cX3_wrongPlace 57 = .ok (.iload_n 3, 1) := by decide +kernel
theorem dX3_wrongPlace_58 : decode cX3_wrongPlace 58 = .ok (.iload_n 2, 1) := by decide +kernel
theorem dX3_wrongPlace_59 : decode cX3_wrongPlace 59 = .ok (.iadd, 1) := by decide +kernel
theorem dX3_wrongPlace_60 : decode cX3_wrongPlace 60 = .ok (.ireturn, 1) := by decide +kernel
theorem dX3_wrongPlace_61 : decode cX3_wrongPlace 61 = .ok (.iload 4, 2) := by decide +kernel
theorem dX3_wrongPlace_63 : decode cX3_wrongPlace 63 = .ok (.iload_n 3, 1) := by decide +kernel
theorem dX3_wrongPlace_64 : decode cX3_wrongPlace 64 = .ok (.isub, 1) := by decide +kernel
theorem dX3_wrongPlace_65 : decode cX3_wrongPlace 65 = .ok (.aload_n 0, 1) := by decide +kernel
theorem dX3_wrongPlace_66 : decode cX3_wrongPlace 66 = .ok (.iload_n 1, 1) := by decide +kernel
theorem dX3_wrongPlace_67 : decode cX3_wrongPlace 67 = .ok (.invokevirtual 34, 3) := by decide +kernel
theorem dX3_wrongPlace_70 : decode cX3_wrongPlace 70 = .ok (.invokestatic 46, 3) := by decide +kernel
theorem dX3_wrongPlace_73 : decode cX3_wrongPlace 73 = .ok (.if_icmp .lt 14, 3) := by decide +kernel
theorem dX3_wrongPlace_76 : decode cX3_wrongPlace 76 = .ok (.aload_n 0, 1) := by decide +kernel
theorem dX3_wrongPlace_77 : decode cX3_wrongPlace 77 = .ok (.iload 4, 2) := by decide +kernel
theorem dX3_wrongPlace_79 : decode cX3_wrongPlace 79 = .ok (.invokevirtual 34, 3) := by decide +kernel
theorem dX3_wrongPlace_82 : decode cX3_wrongPlace 82 = .ok (.bipush 59, 2) := by decide +kernel
theorem dX3_wrongPlace_84 : decode cX3_wrongPlace 84 = .ok (.if_icmp .eq 8, 3) := by decide +kernel
theorem dX3_wrongPlace_87 : decode cX3_wrongPlace 87 = .ok (.iload 4, 2) := by decide +kernel
theorem dX3_wrongPlace_89 : decode cX3_wrongPlace 89 = .ok (.goto 4, 3) := by decide +kernel
theorem dX3_wrongPlace_92 : decode cX3_wrongPlace 92 = .ok (.iconst (-1), 1) := by decide +kernel
theorem dX3_wrongPlace_93 : decode cX3_wrongPlace 93 = .ok (.ireturn, 1) := by decide +kernel
theorem dX3_leastDigits_0 : decode cX3_leastDigits 0 = .ok (.iload_n 0, 1) := by decide +kernel
theorem dX3_leastDigits_1 : decode cX3_leastDigits 1 = .ok (.lookupswitch 31 #[(108, 29), (112, 27)], 27) := by decide +kernel
theorem dX3_leastDigits_28 : decode cX3_leastDigits 28 = .ok (.iconst 2, 1) := by decide +kernel
theorem dX3_leastDigits_29 : decode cX3_leastDigits 29 = .ok (.ireturn, 1) := by decide +kernel
theorem dX3_leastDigits_30 : decode cX3_leastDigits 30 = .ok (.iconst 3, 1) := by decide +kernel
theorem dX3_leastDigits_31 : decode cX3_leastDigits 31 = .ok (.ireturn, 1) := by decide +kernel
theorem dX3_leastDigits_32 : decode cX3_leastDigits 32 = .ok (.iconst 1, 1) := by decide +kernel
theorem dX3_leastDigits_33 : decode cX3_leastDigits 33 = .ok (.ireturn, 1) := by decide +kernel
theorem dX3_mostDigits_0 : decode cX3_mostDigits 0 = .ok (.iload_n 0, 1) := by decide +kernel
theorem dX3_mostDigits_1 : decode cX3_mostDigits 1 = .ok (.tableswitch 84 101 115 #[80, 84, 84, 75, 84, 84, 84, 77, 82, 84, 84, 75, 84, 84, 75], 75) := by decide +kernel
theorem dX3_mostDigits_76 : decode cX3_mostDigits 76 = .ok (.iconst 3, 1) := by decide +kernel
theorem dX3_mostDigits_77 : decode cX3_mostDigits 77 = .ok (.ireturn, 1) := by decide +kernel
theorem dX3_mostDigits_78 : decode cX3_mostDigits 78 = .ok (.bipush 14, 2) := by decide +kernel
theorem dX3_mostDigits_80 : decode cX3_mostDigits 80 = .ok (.ireturn, 1) := by decide +kernel
theorem dX3_mostDigits_81 : decode cX3_mostDigits 81 = .ok (.iconst 1, 1) := by decide +kernel
theorem dX3_mostDigits_82 : decode cX3_mostDigits 82 = .ok (.ireturn, 1) := by decide +kernel
theorem dX3_mostDigits_83 : decode cX3_mostDigits 83 = .ok (.iconst 2, 1) := by decide +kernel
theorem dX3_mostDigits_84 : decode cX3_mostDigits 84 = .ok (.ireturn, 1) := by decide +kernel
theorem dX3_mostDigits_85 : decode cX3_mostDigits 85 = .ok (.iconst 0, 1) := by decide +kernel
theorem dX3_mostDigits_86 : decode cX3_mostDigits 86 = .ok (.ireturn, 1) := by decide +kernel
theorem xiX3_kindAt_X3 : GoodIn wsX3_kindAt wsX30 := goodIn_sub (fun _ h => List.mem_cons_of_mem _ (List.mem_append_right _ h)) xgwX3
set_option maxRecDepth 20000 in
theorem ggX3_kindAt_X3_at : GoodIn wsX3_kindAt wsX3_at := (goodIn_ca (goodIn_r _ [5, 6, 7] rfl (by decide +kernel)) xiX3_kindAt_X3)
set_option maxRecDepth 20000 in
theorem gX3_kindAt_X3_at : GoodIn wsX3_kindAt (wsV RX3 34 RX3 yX3_at wsX3_at) := goodIn_app (goodIn_r _ [1, 2, 3, 4] rfl (by decide +kernel)) ggX3_kindAt_X3_at
set_option maxRecDepth 20000 in
theorem ggX3_kindAt_J0_indexOf_0f7a4 : GoodIn wsX3_kindAt wsJ0_indexOf_0f7a4 := goodIn_r _ [12, 13, 14, 15, 11, 16, 17, 18, 19, 20, 21, 22, 23, 24, 25, 26, 27, 28, 29, 30, 31, 32, 33, 34, 35, 36, 37, 38, 39, 40, 41, 42, 43, 44, 45, 46, 47, 48, 49, 50, 51, 52, 53, 54, 55, 56, 57, 58, 59, 60, 61, 62, 63, 64, 65, 66, 67, 68, 69, 70, 71, 72, 73, 74, 75, 76, 77, 78, 79, 80, 81, 82, 83, 84, 85, 86, 87, 88, 89, 90, 91, 92, 93, 94, 95, 96] rfl (by decide +kernel)
set_option maxRecDepth 20000 in
theorem gX3_kindAt_J0_indexOf_0f7a4 : GoodIn wsX3_kindAt (wsV RX3 51 RJ0 yJ0_indexOf_0f7a4 wsJ0_indexOf_0f7a4) := goodIn_app (goodIn_of _ (by decide +kernel)) ggX3_kindAt_J0_indexOf_0f7a4
theorem dX3_kindAt_0 : decode cX3_kindAt 0 = .ok (.aload_n 0, 1) := by decide +kernel
theorem dX3_kindAt_1 : decode cX3_kindAt 1 = .ok (.iload_n 1, 1) := by decide +kernel
theorem dX3_kindAt_2 : decode cX3_kindAt 2 = .ok (.invokevirtual 34, 3) := by decide +kernel
theorem dX3_kindAt_5 : decode cX3_kindAt 5 = .ok (.ifCond .ge 7, 3) := by decide +kernel
theorem dX3_kindAt_8 : decode cX3_kindAt 8 = .ok (.iconst (-1), 1) := by decide +kernel
theorem dX3_kindAt_9 : decode cX3_kindAt 9 = .ok (.goto 14, 3) := by decide +kernel
theorem dX3_kindAt_12 : decode cX3_kindAt 12 = .ok (.ldc 49, 2) := by decide +kernel
theorem dX3_kindAt_14 : decode cX3_kindAt 14 = .ok (.aload_n 0, 1) := by decide +kernel
theorem dX3_kindAt_15 : decode cX3_kindAt 15 = .ok (.iload_n 1, 1) := by decide +kernel
theorem dX3_kindAt_16 : decode cX3_kindAt 16 = .ok (.invokevirtual 34, 3) := by decide +kernel
theorem dX3_kindAt_19 : decode cX3_kindAt 19 = .ok (.i2c, 1) := by decide +kernel
theorem dX3_kindAt_20 : decode cX3_kindAt 20 = .ok (.invokevirtual 51, 3) := by decide +kernel
theorem dX3_kindAt_23 : decode cX3_kindAt 23 = .ok (.ireturn, 1) := by decide +kernel
theorem xiX3_digitsPlace_X3 : GoodIn wsX3_digitsPlace wsX30 := goodIn_sub (fun _ h => List.mem_cons_of_mem _ (List.mem_append_right _ h)) xgwX3
set_option maxRecDepth 20000 in
theorem ggX3_digitsPlace_X3_at : GoodIn wsX3_digitsPlace wsX3_at := (goodIn_ca (goodIn_r _ [5, 6, 7] rfl (by decide +kernel)) xiX3_digitsPlace_X3)
set_option maxRecDepth 20000 in
theorem gX3_digitsPlace_X3_at : GoodIn wsX3_digitsPlace (wsV RX3 34 RX3 yX3_at wsX3_at) := goodIn_app (goodIn_r _ [1, 2, 3, 4] rfl (by decide +kernel)) ggX3_digitsPlace_X3_at
theorem dX3_digitsPlace_0 : decode cX3_digitsPlace 0 = .ok (.aload_n 0, 1) := by decide +kernel
theorem dX3_digitsPlace_1 : decode cX3_digitsPlace 1 = .ok (.iload_n 1, 1) := by decide +kernel
theorem dX3_digitsPlace_2 : decode cX3_digitsPlace 2 = .ok (.invokevirtual 34, 3) := by decide +kernel
theorem dX3_digitsPlace_5 : decode cX3_digitsPlace 5 = .ok (.bipush 108, 2) := by decide +kernel
theorem dX3_digitsPlace_7 : decode cX3_digitsPlace 7 = .ok (.if_icmp .ne 9, 3) := by decide +kernel
theorem dX3_digitsPlace_10 : decode cX3_digitsPlace 10 = .ok (.iload_n 1, 1) := by decide +kernel
theorem dX3_digitsPlace_11 : decode cX3_digitsPlace 11 = .ok (.iconst 2, 1) := by decide +kernel
theorem dX3_digitsPlace_12 : decode cX3_digitsPlace 12 = .ok (.iadd, 1) := by decide +kernel
theorem dX3_digitsPlace_13 : decode cX3_digitsPlace 13 = .ok (.goto 6, 3) := by decide +kernel
theorem dX3_digitsPlace_16 : decode cX3_digitsPlace 16 = .ok (.iload_n 1, 1) := by decide +kernel
theorem dX3_digitsPlace_17 : decode cX3_digitsPlace 17 = .ok (.iconst 1, 1) := by decide +kernel
theorem dX3_digitsPlace_18 : decode cX3_digitsPlace 18 = .ok (.iadd, 1) := by decide +kernel
theorem dX3_digitsPlace_19 : decode cX3_digitsPlace 19 = .ok (.ireturn, 1) := by decide +kernel
theorem xiX3_digitsEnd_X3 : GoodIn wsX3_digitsEnd wsX30 := goodIn_sub (fun _ h => List.mem_cons_of_mem _ (List.mem_append_right _ h)) xgwX3
set_option maxRecDepth 20000 in
theorem ggX3_digitsEnd_X3_digitsPlace : GoodIn wsX3_digitsEnd wsX3_digitsPlace := (goodIn_ca (goodIn_r _ [6, 7, 8, 9, 5, 10, 1, 11] rfl (by decide +kernel)) xiX3_digitsEnd_X3)
set_option maxRecDepth 20000 in
theorem gX3_digitsEnd_X3_digitsPlace : GoodIn wsX3_digitsEnd (wsV RX3 40 RX3 yX3_digitsPlace wsX3_digitsPlace) := goodIn_app (goodIn_r _ [2, 3, 4, 5] rfl (by decide +kernel)) ggX3_digitsEnd_X3_digitsPlace
set_option maxRecDepth 20000 in
theorem ggX3_digitsEnd_X3_isDigit : GoodIn wsX3_digitsEnd wsX3_isDigit := (goodIn_ca (goodIn_r _ [15, 7, 8, 9, 5, 10, 1, 11] rfl (by decide +kernel)) xiX3_digitsEnd_X3)
set_option maxRecDepth 20000 in
theorem gX3_digitsEnd_X3_isDigit : GoodIn wsX3_digitsEnd (wsV RX3 56 RX3 yX3_isDigit wsX3_isDigit) := goodIn_app (goodIn_r _ [12, 13, 14, 5] rfl (by decide +kernel)) ggX3_digitsEnd_X3_isDigit
theorem dX3_digitsEnd_0 : decode cX3_digitsEnd 0 = .ok (.aload_n 0, 1) := by decide +kernel
theorem dX3_digitsEnd_1 : decode cX3_digitsEnd 1 = .ok (.iload_n 1, 1) := by decide +kernel
theorem dX3_digitsEnd_2 : decode cX3_digitsEnd 2 = .ok (.invokevirtual 40, 3) := by decide +kernel
theorem dX3_digitsEnd_5 : decode cX3_digitsEnd 5 = .ok (.istore_n 2, 1) := by decide +kernel
theorem dX3_digitsEnd_6 : decode cX3_digitsEnd 6 = .ok (.iload_n 2, 1) := by decide +kernel
theorem dX3_digitsEnd_7 : decode cX3_digitsEnd 7 = .ok (.aload_n 0, 1) := by decide +kernel
theorem dX3_digitsEnd_8 : decode cX3_digitsEnd 8 = .ok (.getfield 15, 3) := by decide +kernel
theorem dX3_digitsEnd_11 : decode cX3_digitsEnd 11 = .ok (.if_icmp .ge 17, 3) := by decide +kernel
theorem dX3_digitsEnd_14 : decode cX3_digitsEnd 14 = .ok (.aload_n 0, 1) := by decide +kernel
theorem dX3_digitsEnd_15 : decode cX3_digitsEnd 15 = .ok (.iload_n 2, 1) := by decide +kernel
theorem dX3_digitsEnd_16 : decode cX3_digitsEnd 16 = .ok (.invokevirtual 56, 3) := by decide +kernel
theorem dX3_digitsEnd_19 : decode cX3_digitsEnd 19 = .ok (.ifCond .eq 9, 3) := by decide +kernel
theorem dX3_digitsEnd_22 : decode cX3_digitsEnd 22 = .ok (.iinc 2 1, 3) := by decide +kernel
theorem dX3_digitsEnd_25 : decode cX3_digitsEnd 25 = .ok (.goto (-19), 3) := by decide +kernel
theorem dX3_digitsEnd_28 : decode cX3_digitsEnd 28 = .ok (.iload_n 2, 1) := by decide +kernel
theorem dX3_digitsEnd_29 : decode cX3_digitsEnd 29 = .ok (.ireturn, 1) := by decide +kernel
theorem xiX3_digit_X3 : GoodIn wsX3_digit wsX30 := goodIn_sub (fun _ h => List.mem_cons_of_mem _ (List.mem_append_right _ h)) xgwX3
set_option maxRecDepth 20000 in
theorem ggX3_digit_X3_isDigit : GoodIn wsX3_digit wsX3_isDigit := (goodIn_ca (goodIn_r _ [5, 6, 7, 8, 4, 9, 10, 11] rfl (by decide +kernel)) xiX3_digit_X3)
set_option maxRecDepth 20000 in
theorem gX3_digit_X3_isDigit : GoodIn wsX3_digit (wsV RX3 56 RX3 yX3_isDigit wsX3_isDigit) := goodIn_app (goodIn_r _ [1, 2, 3, 4] rfl (by decide +kernel)) ggX3_digit_X3_isDigit
set_option maxRecDepth 20000 in
theorem ggX3_digit_X3_at : GoodIn wsX3_digit wsX3_at := (goodIn_ca (goodIn_r _ [9, 10, 11] rfl (by decide +kernel)) xiX3_digit_X3)
set_option maxRecDepth 20000 in
theorem gX3_digit_X3_at : GoodIn wsX3_digit (wsV RX3 34 RX3 yX3_at wsX3_at) := goodIn_app (goodIn_r _ [6, 7, 8, 4] rfl (by decide +kernel)) ggX3_digit_X3_at
theorem dX3_digit_0 : decode cX3_digit 0 = .ok (.aload_n 0, 1) := by decide +kernel
theorem dX3_digit_1 : decode cX3_digit 1 = .ok (.iload_n 1, 1) := by decide +kernel
theorem dX3_digit_2 : decode cX3_digit 2 = .ok (.invokevirtual 56, 3) := by decide +kernel
theorem dX3_digit_5 : decode cX3_digit 5 = .ok (.ifCond .eq 14, 3) := by decide +kernel
theorem dX3_digit_8 : decode cX3_digit 8 = .ok (.aload_n 0, 1) := by decide +kernel
theorem dX3_digit_9 : decode cX3_digit 9 = .ok (.iload_n 1, 1) := by decide +kernel
theorem dX3_digit_10 : decode cX3_digit 10 = .ok (.invokevirtual 34, 3) := by decide +kernel
theorem dX3_digit_13 : decode cX3_digit 13 = .ok (.bipush 48, 2) := by decide +kernel
theorem dX3_digit_15 : decode cX3_digit 15 = .ok (.isub, 1) := by decide +kernel
theorem dX3_digit_16 : decode cX3_digit 16 = .ok (.goto 4, 3) := by decide +kernel
theorem dX3_digit_19 : decode cX3_digit 19 = .ok (.iconst 0, 1) := by decide +kernel
theorem dX3_digit_20 : decode cX3_digit 20 = .ok (.ireturn, 1) := by decide +kernel
theorem xiX3_numberAt_X3 : GoodIn wsX3_numberAt wsX30 := goodIn_sub (fun _ h => List.mem_cons_of_mem _ (List.mem_append_right _ h)) xgwX3
set_option maxRecDepth 20000 in
theorem ggX3_numberAt_X3_digitsPlace : GoodIn wsX3_numberAt wsX3_digitsPlace := (goodIn_ca (goodIn_r _ [5, 6, 7, 8, 4, 9, 10, 11] rfl (by decide +kernel)) xiX3_numberAt_X3)
set_option maxRecDepth 20000 in
theorem gX3_numberAt_X3_digitsPlace : GoodIn wsX3_numberAt (wsV RX3 40 RX3 yX3_digitsPlace wsX3_digitsPlace) := goodIn_app (goodIn_r _ [1, 2, 3, 4] rfl (by decide +kernel)) ggX3_numberAt_X3_digitsPlace
set_option maxRecDepth 20000 in
theorem ggX3_numberAt_X3_digitsEnd : GoodIn wsX3_numberAt wsX3_digitsEnd := (goodIn_ca (goodIn_r _ [15, 10, 1, 2, 3, 4, 5, 6, 7, 8, 9, 11, 16, 17, 18, 19] rfl (by decide +kernel)) xiX3_numberAt_X3)
set_option maxRecDepth 20000 in
theorem gX3_numberAt_X3_digitsEnd : GoodIn wsX3_numberAt (wsV RX3 27 RX3 yX3_digitsEnd wsX3_digitsEnd) := goodIn_app (goodIn_r _ [12, 13, 14, 4] rfl (by decide +kernel)) ggX3_numberAt_X3_digitsEnd
set_option maxRecDepth 20000 in
theorem ggX3_numberAt_X3_digit : GoodIn wsX3_numberAt wsX3_digit := (goodIn_ca (goodIn_r _ [23, 16, 17, 18, 4, 19, 6, 7, 8, 9, 10, 11] rfl (by decide +kernel)) xiX3_numberAt_X3)
set_option maxRecDepth 20000 in
theorem gX3_numberAt_X3_digit : GoodIn wsX3_numberAt (wsV RX3 60 RX3 yX3_digit wsX3_digit) := goodIn_app (goodIn_r _ [20, 21, 22, 4] rfl (by decide +kernel)) ggX3_numberAt_X3_digit
theorem dX3_numberAt_0 : decode cX3_numberAt 0 = .ok (.iconst 0, 1) := by decide +kernel
theorem dX3_numberAt_1 : decode cX3_numberAt 1 = .ok (.istore_n 2, 1) := by decide +kernel
theorem dX3_numberAt_2 : decode cX3_numberAt 2 = .ok (.aload_n 0, 1) := by decide +kernel
theorem dX3_numberAt_3 : decode cX3_numberAt 3 = .ok (.iload_n 1, 1) := by decide +kernel
theorem dX3_numberAt_4 : decode cX3_numberAt 4 = .ok (.invokevirtual 40, 3) := by decide +kernel
theorem dX3_numberAt_7 : decode cX3_numberAt 7 = .ok (.istore_n 3, 1) := by decide +kernel
theorem dX3_numberAt_8 : decode cX3_numberAt 8 = .ok (.iload_n 3, 1) := by decide +kernel
theorem dX3_numberAt_9 : decode cX3_numberAt 9 = .ok (.aload_n 0, 1) := by decide +kernel
theorem dX3_numberAt_10 : decode cX3_numberAt 10 = .ok (.iload_n 1, 1) := by decide +kernel
theorem dX3_numberAt_11 : decode cX3_numberAt 11 = .ok (.invokevirtual 27, 3) := by decide +kernel
theorem dX3_numberAt_14 : decode cX3_numberAt 14 = .ok (.if_icmp .ge 20, 3) := by decide +kernel
theorem dX3_numberAt_17 : decode cX3_numberAt 17 = .ok (.iload_n 2, 1) := by decide +kernel
theorem dX3_numberAt_18 : decode cX3_numberAt 18 = .ok (.bipush 10, 2) := by decide +kernel
theorem dX3_numberAt_20 : decode cX3_numberAt 20 = .ok (.imul, 1) := by decide +kernel
theorem dX3_numberAt_21 : decode cX3_numberAt 21 = .ok (.aload_n 0, 1) := by decide +kernel
theorem dX3_numberAt_22 : decode cX3_numberAt 22 = .ok (.iload_n 3, 1) := by decide +kernel
theorem dX3_numberAt_23 : decode cX3_numberAt 23 = .ok (.invokevirtual 60, 3) := by decide +kernel
theorem dX3_numberAt_26 : decode cX3_numberAt 26 = .ok (.iadd, 1) := by decide +kernel
theorem dX3_numberAt_27 : decode cX3_numberAt 27 = .ok (.istore_n 2, 1) := by decide +kernel
theorem dX3_numberAt_28 : decode cX3_numberAt 28 = .ok (.iinc 3 1, 3) := by decide +kernel
theorem dX3_numberAt_31 : decode cX3_numberAt 31 = .ok (.goto (-23), 3) := by decide +kernel
theorem dX3_numberAt_34 : decode cX3_numberAt 34 = .ok (.iload_n 2, 1) := by decide +kernel
theorem dX3_numberAt_35 : decode cX3_numberAt 35 = .ok (.ireturn, 1) := by decide +kernel
theorem xiX3_takeStatement_X3 : GoodIn wsX3_takeStatement wsX30 := goodIn_sub (fun _ h => List.mem_cons_of_mem _ (List.mem_append_left _ (List.mem_append_left _ (List.mem_append_right _ h)))) xgwX3
set_option maxRecDepth 20000 in
theorem ggX3_takeStatement_X3_at : GoodIn wsX3_takeStatement wsX3_at := (goodIn_ca (goodIn_r _ [5, 6, 7] rfl (by decide +kernel)) xiX3_takeStatement_X3)
set_option maxRecDepth 20000 in
theorem gX3_takeStatement_X3_at : GoodIn wsX3_takeStatement (wsV RX3 34 RX3 yX3_at wsX3_at) := goodIn_app (goodIn_r _ [1, 2, 3, 4] rfl (by decide +kernel)) ggX3_takeStatement_X3_at
set_option maxRecDepth 20000 in
theorem ggX3_takeStatement_X3_numberAt : GoodIn wsX3_takeStatement wsX3_numberAt := (goodIn_ca (goodIn_r _ [11, 12, 13, 14, 4, 15, 1, 2, 3, 5, 6, 7, 16, 17, 18, 19, 20, 21, 22, 23, 24, 25, 26, 27] rfl (by decide +kernel)) xiX3_takeStatement_X3)
set_option maxRecDepth 20000 in
theorem gX3_takeStatement_X3_numberAt : GoodIn wsX3_takeStatement (wsV RX3 63 RX3 yX3_numberAt wsX3_numberAt) := goodIn_app (goodIn_r _ [8, 9, 10, 4] rfl (by decide +kernel)) ggX3_takeStatement_X3_numberAt
theorem xiX3_takeStatement_X2 : GoodIn wsX3_takeStatement wsX20 := goodIn_sub (fun _ h => List.mem_cons_of_mem _ (List.mem_append_left _ (List.mem_append_right _ h))) xgwX2
set_option maxRecDepth 20000 in
theorem ggX3_takeStatement_X2_addStop : GoodIn wsX3_takeStatement wsX2_addStop := (goodIn_ca (goodIn_r _ [32, 33, 34] rfl (by decide +kernel)) xiX3_takeStatement_X2)
set_option maxRecDepth 20000 in
theorem gX3_takeStatement_X2_addStop : GoodIn wsX3_takeStatement (wsV RX3 66 RX2 yX2_addStop wsX2_addStop) := goodIn_app (goodIn_r _ [28, 29, 30, 31] rfl (by decide +kernel)) ggX3_takeStatement_X2_addStop
set_option maxRecDepth 20000 in
theorem ggX3_takeStatement_X2_change : GoodIn wsX3_takeStatement wsX2_change := (goodIn_ca (goodIn_r _ [38, 39, 40, 41, 42, 43, 44, 31, 45, 46, 47, 48] rfl (by decide +kernel)) xiX3_takeStatement_X2)
set_option maxRecDepth 20000 in
theorem gX3_takeStatement_X2_change : GoodIn wsX3_takeStatement (wsV RX3 71 RX2 yX2_change wsX2_change) := goodIn_app (goodIn_r _ [35, 36, 37, 31] rfl (by decide +kernel)) ggX3_takeStatement_X2_change
theorem xiX3_takeStatement_X0 : GoodIn wsX3_takeStatement wsX00 := goodIn_sub (fun _ h => List.mem_cons_of_mem _ (List.mem_append_right _ h)) xgwX0
set_option maxRecDepth 20000 in
theorem ggX3_takeStatement_X3_takeLine : GoodIn wsX3_takeStatement wsX3_takeLine := (goodIn_ca (goodIn_ca (goodIn_ca (goodIn_r _ [52, 53, 54, 55, 56, 57, 58, 12, 13, 14, 4, 15, 1, 2, 3, 5, 6, 7, 59, 60, 61, 62, 63, 64, 65, 66, 67, 68, 69, 70, 71, 72, 73, 74, 75, 76, 77, 78, 79, 80, 81, 82, 83, 84, 85, 86, 87, 88, 89, 90, 91, 92, 93, 94, 95, 96, 97, 98, 99, 100, 101, 102, 103, 104, 105, 106, 107, 108, 109, 110, 111, 112, 113, 114, 115, 116, 117, 118, 119, 120, 121, 122, 123, 124, 125, 126, 127, 128, 129, 130, 131, 132, 133, 134, 135, 136, 137, 138, 139, 140, 141, 142, 143, 144, 145, 146, 147, 148, 149, 150, 151, 24, 25, 26, 27, 20, 21, 22, 23, 16, 17, 18, 19, 152, 153, 154, 155, 156, 157, 158, 159, 160, 161, 162] rfl (by decide +kernel)) xiX3_takeStatement_X2) xiX3_takeStatement_X0) xiX3_takeStatement_X3)
set_option maxRecDepth 20000 in
theorem gX3_takeStatement_X3_takeLine : GoodIn wsX3_takeStatement (wsV RX3 75 RX3 yX3_takeLine wsX3_takeLine) := goodIn_app (goodIn_r _ [49, 50, 51, 4] rfl (by decide +kernel)) ggX3_takeStatement_X3_takeLine
theorem dX3_takeStatement_0 : decode cX3_takeStatement 0 = .ok (.aload_n 0, 1) := by decide +kernel
theorem dX3_takeStatement_1 : decode cX3_takeStatement 1 = .ok (.iload_n 2, 1) := by decide +kernel
theorem dX3_takeStatement_2 : decode cX3_takeStatement 2 = .ok (.invokevirtual 34, 3) := by decide +kernel
theorem dX3_takeStatement_5 : decode cX3_takeStatement 5 = .ok (.tableswitch 129 101 115 #[107, 129, 129, 85, 129, 129, 129, 129, 118, 129, 129, 96, 129, 129, 75], 75) := by decide +kernel
theorem dX3_takeStatement_80 : decode cX3_takeStatement 80 = .ok (.aload_n 1, 1) := by decide +kernel
theorem dX3_takeStatement_81 : decode cX3_takeStatement 81 = .ok (.aload_n 0, 1) := by decide +kernel
theorem dX3_takeStatement_82 : decode cX3_takeStatement 82 = .ok (.iload_n 2, 1) := by decide +kernel
theorem dX3_takeStatement_83 : decode cX3_takeStatement 83 = .ok (.invokevirtual 63, 3) := by decide +kernel
theorem dX3_takeStatement_86 : decode cX3_takeStatement 86 = .ok (.invokevirtual 66, 3) := by decide +kernel
theorem dX3_takeStatement_89 : decode cX3_takeStatement 89 = .ok (.ireturn, 1) := by decide +kernel
theorem dX3_takeStatement_90 : decode cX3_takeStatement 90 = .ok (.aload_n 1, 1) := by decide +kernel
theorem dX3_takeStatement_91 : decode cX3_takeStatement 91 = .ok (.iconst 0, 1) := by decide +kernel
theorem dX3_takeStatement_92 : decode cX3_takeStatement 92 = .ok (.aload_n 0, 1) := by decide +kernel
theorem dX3_takeStatement_93 : decode cX3_takeStatement 93 = .ok (.iload_n 2, 1) := by decide +kernel
theorem dX3_takeStatement_94 : decode cX3_takeStatement 94 = .ok (.invokevirtual 63, 3) := by decide +kernel
theorem dX3_takeStatement_97 : decode cX3_takeStatement 97 = .ok (.invokevirtual 71, 3) := by decide +kernel
theorem dX3_takeStatement_100 : decode cX3_takeStatement 100 = .ok (.ireturn, 1) := by decide +kernel
theorem dX3_takeStatement_101 : decode cX3_takeStatement 101 = .ok (.aload_n 1, 1) := by decide +kernel
theorem dX3_takeStatement_102 : decode cX3_takeStatement 102 = .ok (.iconst 1, 1) := by decide +kernel
theorem dX3_takeStatement_103 : decode cX3_takeStatement 103 = .ok (.aload_n 0, 1) := by decide +kernel
theorem dX3_takeStatement_104 : decode cX3_takeStatement 104 = .ok (.iload_n 2, 1) := by decide +kernel
theorem dX3_takeStatement_105 : decode cX3_takeStatement 105 = .ok (.invokevirtual 63, 3) := by decide +kernel
theorem dX3_takeStatement_108 : decode cX3_takeStatement 108 = .ok (.invokevirtual 71, 3) := by decide +kernel
theorem dX3_takeStatement_111 : decode cX3_takeStatement 111 = .ok (.ireturn, 1) := by decide +kernel
theorem dX3_takeStatement_112 : decode cX3_takeStatement 112 = .ok (.aload_n 1, 1) := by decide +kernel
theorem dX3_takeStatement_113 : decode cX3_takeStatement 113 = .ok (.iconst 2, 1) := by decide +kernel
theorem dX3_takeStatement_114 : decode cX3_takeStatement 114 = .ok (.aload_n 0, 1) := by decide +kernel
theorem dX3_takeStatement_115 : decode cX3_takeStatement 115 = .ok (.iload_n 2, 1) := by decide +kernel
theorem dX3_takeStatement_116 : decode cX3_takeStatement 116 = .ok (.invokevirtual 63, 3) := by decide +kernel
theorem dX3_takeStatement_119 : decode cX3_takeStatement 119 = .ok (.invokevirtual 71, 3) := by decide +kernel
theorem dX3_takeStatement_122 : decode cX3_takeStatement 122 = .ok (.ireturn, 1) := by decide +kernel
theorem dX3_takeStatement_123 : decode cX3_takeStatement 123 = .ok (.aload_n 1, 1) := by decide +kernel
theorem dX3_takeStatement_124 : decode cX3_takeStatement 124 = .ok (.iconst 3, 1) := by decide +kernel
theorem dX3_takeStatement_125 : decode cX3_takeStatement 125 = .ok (.aload_n 0, 1) := by decide +kernel
theorem dX3_takeStatement_126 : decode cX3_takeStatement 126 = .ok (.iload_n 2, 1) := by decide +kernel
theorem dX3_takeStatement_127 : decode cX3_takeStatement 127 = .ok (.invokevirtual 63, 3) := by decide +kernel
theorem dX3_takeStatement_130 : decode cX3_takeStatement 130 = .ok (.invokevirtual 71, 3) := by decide +kernel
theorem dX3_takeStatement_133 : decode cX3_takeStatement 133 = .ok (.ireturn, 1) := by decide +kernel
theorem dX3_takeStatement_134 : decode cX3_takeStatement 134 = .ok (.aload_n 0, 1) := by decide +kernel
theorem dX3_takeStatement_135 : decode cX3_takeStatement 135 = .ok (.aload_n 1, 1) := by decide +kernel
theorem dX3_takeStatement_136 : decode cX3_takeStatement 136 = .ok (.iload_n 2, 1) := by decide +kernel
theorem dX3_takeStatement_137 : decode cX3_takeStatement 137 = .ok (.invokevirtual 75, 3) := by decide +kernel
theorem dX3_takeStatement_140 : decode cX3_takeStatement 140 = .ok (.ireturn, 1) := by decide +kernel
theorem xiX3_takeLine_X3 : GoodIn wsX3_takeLine wsX30 := goodIn_sub (fun _ h => List.mem_cons_of_mem _ (List.mem_append_right _ h)) xgwX3
set_option maxRecDepth 20000 in
theorem ggX3_takeLine_X3_digitsPlace : GoodIn wsX3_takeLine wsX3_digitsPlace := (goodIn_ca (goodIn_r _ [11, 12, 13, 14, 10, 15, 16, 17] rfl (by decide +kernel)) xiX3_takeLine_X3)
set_option maxRecDepth 20000 in
theorem gX3_takeLine_X3_digitsPlace : GoodIn wsX3_takeLine (wsV RX3 40 RX3 yX3_digitsPlace wsX3_digitsPlace) := goodIn_app (goodIn_r _ [7, 8, 9, 10] rfl (by decide +kernel)) ggX3_takeLine_X3_digitsPlace
set_option maxRecDepth 20000 in
theorem ggX3_takeLine_X3_kindAt : GoodIn wsX3_takeLine wsX3_kindAt := (goodIn_ca (goodIn_r _ [21, 12, 13, 14, 10, 15, 16, 17, 22, 23, 24, 25, 26, 27, 28, 29, 30, 31, 32, 33, 34, 35, 36, 37, 38, 39, 40, 41, 42, 43, 44, 45, 46, 47, 48, 49, 50, 51, 52, 53, 54, 55, 56, 57, 58, 59, 60, 61, 62, 63, 64, 65, 66, 67, 68, 69, 70, 71, 72, 73, 74, 75, 76, 77, 78, 79, 80, 81, 82, 83, 84, 85, 86, 87, 88, 89, 90, 91, 92, 93, 94, 95, 96, 97, 98, 99, 100, 101, 102, 103, 104, 105, 106, 107, 108, 109, 110] rfl (by decide +kernel)) xiX3_takeLine_X3)
set_option maxRecDepth 20000 in
theorem gX3_takeLine_X3_kindAt : GoodIn wsX3_takeLine (wsV RX3 43 RX3 yX3_kindAt wsX3_kindAt) := goodIn_app (goodIn_r _ [18, 19, 20, 10] rfl (by decide +kernel)) ggX3_takeLine_X3_kindAt
set_option maxRecDepth 20000 in
theorem ggX3_takeLine_X3_digit : GoodIn wsX3_takeLine wsX3_digit := (goodIn_ca (goodIn_r _ [114, 115, 116, 117, 10, 118, 12, 13, 14, 15, 16, 17] rfl (by decide +kernel)) xiX3_takeLine_X3)
set_option maxRecDepth 20000 in
theorem gX3_takeLine_X3_digit : GoodIn wsX3_takeLine (wsV RX3 60 RX3 yX3_digit wsX3_digit) := goodIn_app (goodIn_r _ [111, 112, 113, 10] rfl (by decide +kernel)) ggX3_takeLine_X3_digit
set_option maxRecDepth 20000 in
theorem ggX3_takeLine_X3_digitsEnd : GoodIn wsX3_takeLine wsX3_digitsEnd := (goodIn_ca (goodIn_r _ [122, 16, 7, 8, 9, 10, 11, 12, 13, 14, 15, 17, 115, 116, 117, 118] rfl (by decide +kernel)) xiX3_takeLine_X3)
set_option maxRecDepth 20000 in
theorem gX3_takeLine_X3_digitsEnd : GoodIn wsX3_takeLine (wsV RX3 27 RX3 yX3_digitsEnd wsX3_digitsEnd) := goodIn_app (goodIn_r _ [119, 120, 121, 10] rfl (by decide +kernel)) ggX3_takeLine_X3_digitsEnd
theorem xiX3_takeLine_X0 : GoodIn wsX3_takeLine wsX00 := goodIn_sub (fun _ h => List.mem_cons_of_mem _ (List.mem_append_left _ (List.mem_append_right _ h))) xgwX0
set_option maxRecDepth 20000 in
theorem ggX3_takeLine_X0_total : GoodIn wsX3_takeLine wsX0_total := (goodIn_ca (goodIn_r _ [127, 128, 129, 130, 131, 126, 132, 133] rfl (by decide +kernel)) xiX3_takeLine_X0)
set_option maxRecDepth 20000 in
theorem gX3_takeLine_X0_total : GoodIn wsX3_takeLine (wsV RX3 99 RX0 yX0_total wsX0_total) := goodIn_app (goodIn_r _ [123, 124, 125, 126] rfl (by decide +kernel)) ggX3_takeLine_X0_total
theorem dX3_takeLine_0 : decode cX3_takeLine 0 = .ok (.aload_n 1, 1) := by decide +kernel
theorem dX3_takeLine_1 : decode cX3_takeLine 1 = .ok (.getfield 78, 3) := by decide +kernel
theorem dX3_takeLine_4 : decode cX3_takeLine 4 = .ok (.iconst 3, 1) := by decide +kernel
theorem dX3_takeLine_5 : decode cX3_takeLine 5 = .ok (.if_icmp .lt 5, 3) := by decide +kernel
theorem dX3_takeLine_8 : decode cX3_takeLine 8 = .ok (.iconst 0, 1) := by decide +kernel
theorem dX3_takeLine_9 : decode cX3_takeLine 9 = .ok (.ireturn, 1) := by decide +kernel
theorem dX3_takeLine_10 : decode cX3_takeLine 10 = .ok (.aload_n 1, 1) := by decide +kernel
theorem dX3_takeLine_11 : decode cX3_takeLine 11 = .ok (.getfield 81, 3) := by decide +kernel
theorem dX3_takeLine_14 : decode cX3_takeLine 14 = .ok (.aload_n 1, 1) := by decide +kernel
theorem dX3_takeLine_15 : decode cX3_takeLine 15 = .ok (.getfield 78, 3) := by decide +kernel
theorem dX3_takeLine_18 : decode cX3_takeLine 18 = .ok (.aaload, 1) := by decide +kernel
theorem dX3_takeLine_19 : decode cX3_takeLine 19 = .ok (.astore_n 3, 1) := by decide +kernel
theorem dX3_takeLine_20 : decode cX3_takeLine 20 = .ok (.aload_n 0, 1) := by decide +kernel
theorem dX3_takeLine_21 : decode cX3_takeLine 21 = .ok (.iload_n 2, 1) := by decide +kernel
theorem dX3_takeLine_22 : decode cX3_takeLine 22 = .ok (.invokevirtual 40, 3) := by decide +kernel
theorem dX3_takeLine_25 : decode cX3_takeLine 25 = .ok (.istore 4, 2) := by decide +kernel
theorem dX3_takeLine_27 : decode cX3_takeLine 27 = .ok (.aload_n 3, 1) := by decide +kernel
theorem dX3_takeLine_28 : decode cX3_takeLine 28 = .ok (.aload_n 0, 1) := by decide +kernel
theorem dX3_takeLine_29 : decode cX3_takeLine 29 = .ok (.iload_n 2, 1) := by decide +kernel
theorem dX3_takeLine_30 : decode cX3_takeLine 30 = .ok (.iconst 1, 1) := by decide +kernel
theorem dX3_takeLine_31 : decode cX3_takeLine 31 = .ok (.iadd, 1) := by decide +kernel
theorem dX3_takeLine_32 : decode cX3_takeLine 32 = .ok (.invokevirtual 43, 3) := by decide +kernel
theorem dX3_takeLine_35 : decode cX3_takeLine 35 = .ok (.putfield 85, 3) := by decide +kernel
theorem dX3_takeLine_38 : decode cX3_takeLine 38 = .ok (.aload_n 3, 1) := by decide +kernel
theorem dX3_takeLine_39 : decode cX3_takeLine 39 = .ok (.aload_n 0, 1) := by decide +kernel
theorem dX3_takeLine_40 : decode cX3_takeLine 40 = .ok (.iload 4, 2) := by decide +kernel
theorem dX3_takeLine_42 : decode cX3_takeLine 42 = .ok (.invokevirtual 60, 3) := by decide +kernel
theorem dX3_takeLine_45 : decode cX3_takeLine 45 = .ok (.putfield 90, 3) := by decide +kernel
theorem dX3_takeLine_48 : decode cX3_takeLine 48 = .ok (.aload_n 3, 1) := by decide +kernel
theorem dX3_takeLine_49 : decode cX3_takeLine 49 = .ok (.aload_n 0, 1) := by decide +kernel
theorem dX3_takeLine_50 : decode cX3_takeLine 50 = .ok (.iload 4, 2) := by decide +kernel
theorem dX3_takeLine_52 : decode cX3_takeLine 52 = .ok (.iconst 1, 1) := by decide +kernel
theorem dX3_takeLine_53 : decode cX3_takeLine 53 = .ok (.iadd, 1) := by decide +kernel
theorem dX3_takeLine_54 : decode cX3_takeLine 54 = .ok (.invokevirtual 60, 3) := by decide +kernel
theorem dX3_takeLine_57 : decode cX3_takeLine 57 = .ok (.putfield 93, 3) := by decide +kernel
theorem dX3_takeLine_60 : decode cX3_takeLine 60 = .ok (.aload_n 0, 1) := by decide +kernel
theorem dX3_takeLine_61 : decode cX3_takeLine 61 = .ok (.iload_n 2, 1) := by decide +kernel
theorem dX3_takeLine_62 : decode cX3_takeLine 62 = .ok (.invokevirtual 27, 3) := by decide +kernel
theorem dX3_takeLine_65 : decode cX3_takeLine 65 = .ok (.iload 4, 2) := by decide +kernel
theorem dX3_takeLine_67 : decode cX3_takeLine 67 = .ok (.isub, 1) := by decide +kernel
theorem dX3_takeLine_68 : decode cX3_takeLine 68 = .ok (.iconst 2, 1) := by decide +kernel
theorem dX3_takeLine_69 : decode cX3_takeLine 69 = .ok (.isub, 1) := by decide +kernel
theorem dX3_takeLine_70 : decode cX3_takeLine 70 = .ok (.istore 5, 2) := by decide +kernel
theorem dX3_takeLine_72 : decode cX3_takeLine 72 = .ok (.iconst 0, 1) := by decide +kernel
theorem dX3_takeLine_73 : decode cX3_takeLine 73 = .ok (.istore 6, 2) := by decide +kernel
theorem dX3_takeLine_75 : decode cX3_takeLine 75 = .ok (.iload 6, 2) := by decide +kernel
theorem dX3_takeLine_77 : decode cX3_takeLine 77 = .ok (.bipush 12, 2) := by decide +kernel
theorem dX3_takeLine_79 : decode cX3_takeLine 79 = .ok (.if_icmp .ge 38, 3) := by decide +kernel
theorem dX3_takeLine_82 : decode cX3_takeLine 82 = .ok (.aload_n 3, 1) := by decide +kernel
theorem dX3_takeLine_83 : decode cX3_takeLine 83 = .ok (.getfield 96, 3) := by decide +kernel
theorem dX3_takeLine_86 : decode cX3_takeLine 86 = .ok (.iload 6, 2) := by decide +kernel
theorem dX3_takeLine_88 : decode cX3_takeLine 88 = .ok (.iload 6, 2) := by decide +kernel
theorem dX3_takeLine_90 : decode cX3_takeLine 90 = .ok (.iload 5, 2) := by decide +kernel
theorem dX3_takeLine_92 : decode cX3_takeLine 92 = .ok (.if_icmp .ge 17, 3) := by decide +kernel
theorem dX3_takeLine_95 : decode cX3_takeLine 95 = .ok (.aload_n 0, 1) := by decide +kernel
theorem dX3_takeLine_96 : decode cX3_takeLine 96 = .ok (.iload 4, 2) := by decide +kernel
theorem dX3_takeLine_98 : decode cX3_takeLine 98 = .ok (.iconst 2, 1) := by decide +kernel
theorem dX3_takeLine_99 : decode cX3_takeLine 99 = .ok (.iadd, 1) := by decide +kernel
theorem dX3_takeLine_100 : decode cX3_takeLine 100 = .ok (.iload 6, 2) := by decide +kernel
theorem dX3_takeLine_102 : decode cX3_takeLine 102 = .ok (.iadd, 1) := by decide +kernel
theorem dX3_takeLine_103 : decode cX3_takeLine 103 = .ok (.invokevirtual 60, 3) := by decide +kernel
theorem dX3_takeLine_106 : decode cX3_takeLine 106 = .ok (.goto 4, 3) := by decide +kernel
theorem dX3_takeLine_109 : decode cX3_takeLine 109 = .ok (.iconst 0, 1) := by decide +kernel
theorem dX3_takeLine_110 : decode cX3_takeLine 110 = .ok (.iastore, 1) := by decide +kernel
theorem dX3_takeLine_111 : decode cX3_takeLine 111 = .ok (.iinc 6 1, 3) := by decide +kernel
theorem dX3_takeLine_114 : decode cX3_takeLine 114 = .ok (.goto (-39), 3) := by decide +kernel
theorem dX3_takeLine_117 : decode cX3_takeLine 117 = .ok (.aload_n 1, 1) := by decide +kernel
theorem dX3_takeLine_118 : decode cX3_takeLine 118 = .ok (.dup, 1) := by decide +kernel
theorem dX3_takeLine_119 : decode cX3_takeLine 119 = .ok (.getfield 78, 3) := by decide +kernel
theorem dX3_takeLine_122 : decode cX3_takeLine 122 = .ok (.iconst 1, 1) := by decide +kernel
theorem dX3_takeLine_123 : decode cX3_takeLine 123 = .ok (.iadd, 1) := by decide +kernel
theorem dX3_takeLine_124 : decode cX3_takeLine 124 = .ok (.putfield 78, 3) := by decide +kernel
theorem dX3_takeLine_127 : decode cX3_takeLine 127 = .ok (.aload_n 3, 1) := by decide +kernel
theorem dX3_takeLine_128 : decode cX3_takeLine 128 = .ok (.getfield 90, 3) := by decide +kernel
theorem dX3_takeLine_131 : decode cX3_takeLine 131 = .ok (.ifCond .le 14, 3) := by decide +kernel
theorem dX3_takeLine_134 : decode cX3_takeLine 134 = .ok (.aload_n 3, 1) := by decide +kernel
theorem dX3_takeLine_135 : decode cX3_takeLine 135 = .ok (.invokevirtual 99, 3) := by decide +kernel
theorem dX3_takeLine_138 : decode cX3_takeLine 138 = .ok (.ifCond .le 7, 3) := by decide +kernel
theorem dX3_takeLine_141 : decode cX3_takeLine 141 = .ok (.iconst 1, 1) := by decide +kernel
theorem dX3_takeLine_142 : decode cX3_takeLine 142 = .ok (.goto 4, 3) := by decide +kernel
theorem dX3_takeLine_145 : decode cX3_takeLine 145 = .ok (.iconst 0, 1) := by decide +kernel
theorem dX3_takeLine_146 : decode cX3_takeLine 146 = .ok (.ireturn, 1) := by decide +kernel
