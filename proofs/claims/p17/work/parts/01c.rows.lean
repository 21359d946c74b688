theorem xiX4_init_X2 : GoodIn wsX4_init wsX20 := goodIn_sub (fun _ h => List.mem_cons_of_mem _ (List.mem_append_left _ (List.mem_append_left _ (List.mem_append_left _ (List.mem_append_left _ (List.mem_append_right _ h)))))) xgwX2
theorem xiX4_init_X0 : GoodIn wsX4_init wsX00 := goodIn_sub (fun _ h => List.mem_cons_of_mem _ (List.mem_append_right _ h)) xgwX0
set_option maxRecDepth 20000 in
theorem ggX4_init_X2_init : GoodIn wsX4_init wsX2_init := (goodIn_ca (goodIn_ca (goodIn_r _ [24, 25, 2, 3, 26, 27, 28, 29, 30, 31, 18, 32, 33, 34, 35, 36, 37, 38, 39, 40] rfl (by decide +kernel)) xiX4_init_X2) xiX4_init_X0)
set_option maxRecDepth 20000 in
theorem gX4_init_X2_init : GoodIn wsX4_init (wsX2_init) := ggX4_init_X2_init
theorem xiX4_init_X1 : GoodIn wsX4_init wsX10 := goodIn_sub (fun _ h => List.mem_cons_of_mem _ (List.mem_append_left _ (List.mem_append_left _ (List.mem_append_right _ h)))) xgwX1
set_option maxRecDepth 20000 in
theorem ggX4_init_X1_init : GoodIn wsX4_init wsX1_init := (goodIn_ca (goodIn_r _ [42, 43, 2, 3, 18, 44, 45, 46, 47, 48, 49, 50] rfl (by decide +kernel)) xiX4_init_X1)
set_option maxRecDepth 20000 in
theorem gX4_init_X1_init_n24 : GoodIn wsX4_init (wsX1_init) := ggX4_init_X1_init
theorem xiX4_init_X3 : GoodIn wsX4_init wsX30 := goodIn_sub (fun _ h => List.mem_cons_of_mem _ (List.mem_append_left _ (List.mem_append_right _ h))) xgwX3
set_option maxRecDepth 20000 in
theorem ggX4_init_X3_init : GoodIn wsX4_init wsX3_init := (goodIn_ca (goodIn_r _ [52, 53, 2, 3, 18, 54, 55] rfl (by decide +kernel)) xiX4_init_X3)
set_option maxRecDepth 20000 in
theorem gX4_init_X3_init_n31 : GoodIn wsX4_init (wsX3_init) := ggX4_init_X3_init
theorem dX4_init_0 : decode cX4_init 0 = .ok (.aload_n 0, 1) := by decide +kernel
theorem dX4_init_1 : decode cX4_init 1 = .ok (.invokespecial 1, 3) := by decide +kernel
theorem dX4_init_4 : decode cX4_init 4 = .ok (.aload_n 0, 1) := by decide +kernel
theorem dX4_init_5 : decode cX4_init 5 = .ok (.new 7, 3) := by decide +kernel
theorem dX4_init_8 : decode cX4_init 8 = .ok (.dup, 1) := by decide +kernel
theorem dX4_init_9 : decode cX4_init 9 = .ok (.invokespecial 9, 3) := by decide +kernel
theorem dX4_init_12 : decode cX4_init 12 = .ok (.putfield 10, 3) := by decide +kernel
theorem dX4_init_15 : decode cX4_init 15 = .ok (.aload_n 0, 1) := by decide +kernel
theorem dX4_init_16 : decode cX4_init 16 = .ok (.new 7, 3) := by decide +kernel
theorem dX4_init_19 : decode cX4_init 19 = .ok (.dup, 1) := by decide +kernel
theorem dX4_init_20 : decode cX4_init 20 = .ok (.invokespecial 9, 3) := by decide +kernel
theorem dX4_init_23 : decode cX4_init 23 = .ok (.putfield 16, 3) := by decide +kernel
theorem dX4_init_26 : decode cX4_init 26 = .ok (.aload_n 0, 1) := by decide +kernel
theorem dX4_init_27 : decode cX4_init 27 = .ok (.new 7, 3) := by decide +kernel
theorem dX4_init_30 : decode cX4_init 30 = .ok (.dup, 1) := by decide +kernel
theorem dX4_init_31 : decode cX4_init 31 = .ok (.invokespecial 9, 3) := by decide +kernel
theorem dX4_init_34 : decode cX4_init 34 = .ok (.putfield 19, 3) := by decide +kernel
theorem dX4_init_37 : decode cX4_init 37 = .ok (.aload_n 0, 1) := by decide +kernel
theorem dX4_init_38 : decode cX4_init 38 = .ok (.new 22, 3) := by decide +kernel
theorem dX4_init_41 : decode cX4_init 41 = .ok (.dup, 1) := by decide +kernel
theorem dX4_init_42 : decode cX4_init 42 = .ok (.invokespecial 24, 3) := by decide +kernel
theorem dX4_init_45 : decode cX4_init 45 = .ok (.putfield 25, 3) := by decide +kernel
theorem dX4_init_48 : decode cX4_init 48 = .ok (.aload_n 0, 1) := by decide +kernel
theorem dX4_init_49 : decode cX4_init 49 = .ok (.new 29, 3) := by decide +kernel
theorem dX4_init_52 : decode cX4_init 52 = .ok (.dup, 1) := by decide +kernel
theorem dX4_init_53 : decode cX4_init 53 = .ok (.invokespecial 31, 3) := by decide +kernel
theorem dX4_init_56 : decode cX4_init 56 = .ok (.putfield 32, 3) := by decide +kernel
theorem dX4_init_59 : decode cX4_init 59 = .ok (.aload_n 0, 1) := by decide +kernel
theorem dX4_init_60 : decode cX4_init 60 = .ok (.bipush 12, 2) := by decide +kernel
theorem dX4_init_62 : decode cX4_init 62 = .ok (.newarray .int, 2) := by decide +kernel
theorem dX4_init_64 : decode cX4_init 64 = .ok (.putfield 36, 3) := by decide +kernel
theorem dX4_init_67 : decode cX4_init 67 = .ok (.aload_n 0, 1) := by decide +kernel
theorem dX4_init_68 : decode cX4_init 68 = .ok (.bipush 7, 2) := by decide +kernel
theorem dX4_init_70 : decode cX4_init 70 = .ok (.newarray .int, 2) := by decide +kernel
theorem dX4_init_72 : decode cX4_init 72 = .ok (.putfield 40, 3) := by decide +kernel
theorem dX4_init_75 : decode cX4_init 75 = .ok (.aload_n 0, 1) := by decide +kernel
theorem dX4_init_76 : decode cX4_init 76 = .ok (.iconst (-1), 1) := by decide +kernel
theorem dX4_init_77 : decode cX4_init 77 = .ok (.putfield 43, 3) := by decide +kernel
theorem dX4_init_80 : decode cX4_init 80 = .ok (.return_, 1) := by decide +kernel
theorem xiX4_letter_X4 : GoodIn wsX4_letter wsX40 := goodIn_sub (fun _ h => List.mem_cons_of_mem _ (List.mem_append_left _ (List.mem_append_right _ h))) xgwX4
set_option maxRecDepth 20000 in
theorem ggX4_letter_X4_refuse : GoodIn wsX4_letter wsX4_refuse := (goodIn_ca (goodIn_r _ [7, 8] rfl (by decide +kernel)) xiX4_letter_X4)
set_option maxRecDepth 20000 in
theorem gX4_letter_X4_refuse : GoodIn wsX4_letter (wsV RX4 47 RX4 yX4_refuse wsX4_refuse) := goodIn_app (goodIn_r _ [3, 4, 5, 6] rfl (by decide +kernel)) ggX4_letter_X4_refuse
theorem xiX4_letter_X3 : GoodIn wsX4_letter wsX30 := goodIn_sub (fun _ h => List.mem_cons_of_mem _ (List.mem_append_right _ h)) xgwX3
set_option maxRecDepth 20000 in
theorem ggX4_letter_X3_add : GoodIn wsX4_letter wsX3_add := (goodIn_ca (goodIn_r _ [13, 14, 15] rfl (by decide +kernel)) xiX4_letter_X3)
set_option maxRecDepth 20000 in
theorem gX4_letter_X3_add : GoodIn wsX4_letter (wsV RX4 54 RX3 yX3_add wsX3_add) := goodIn_app (goodIn_r _ [9, 10, 11, 12] rfl (by decide +kernel)) ggX4_letter_X3_add
theorem dX4_letter_0 : decode cX4_letter 0 = .ok (.iload_n 1, 1) := by decide +kernel
theorem dX4_letter_1 : decode cX4_letter 1 = .ok (.ifCond .ge 10, 3) := by decide +kernel
theorem dX4_letter_4 : decode cX4_letter 4 = .ok (.aload_n 0, 1) := by decide +kernel
theorem dX4_letter_5 : decode cX4_letter 5 = .ok (.bipush (-4), 2) := by decide +kernel
theorem dX4_letter_7 : decode cX4_letter 7 = .ok (.invokevirtual 47, 3) := by decide +kernel
theorem dX4_letter_10 : decode cX4_letter 10 = .ok (.ireturn, 1) := by decide +kernel
theorem dX4_letter_11 : decode cX4_letter 11 = .ok (.iload_n 1, 1) := by decide +kernel
theorem dX4_letter_12 : decode cX4_letter 12 = .ok (.sipush 255, 3) := by decide +kernel
theorem dX4_letter_15 : decode cX4_letter 15 = .ok (.if_icmp .gt 15, 3) := by decide +kernel
theorem dX4_letter_18 : decode cX4_letter 18 = .ok (.aload_n 0, 1) := by decide +kernel
theorem dX4_letter_19 : decode cX4_letter 19 = .ok (.getfield 32, 3) := by decide +kernel
theorem dX4_letter_22 : decode cX4_letter 22 = .ok (.getfield 51, 3) := by decide +kernel
theorem dX4_letter_25 : decode cX4_letter 25 = .ok (.bipush 96, 2) := by decide +kernel
theorem dX4_letter_27 : decode cX4_letter 27 = .ok (.if_icmp .lt 10, 3) := by decide +kernel
theorem dX4_letter_30 : decode cX4_letter 30 = .ok (.aload_n 0, 1) := by decide +kernel
theorem dX4_letter_31 : decode cX4_letter 31 = .ok (.bipush (-6), 2) := by decide +kernel
theorem dX4_letter_33 : decode cX4_letter 33 = .ok (.invokevirtual 47, 3) := by decide +kernel
theorem dX4_letter_36 : decode cX4_letter 36 = .ok (.ireturn, 1) := by decide +kernel
theorem dX4_letter_37 : decode cX4_letter 37 = .ok (.aload_n 0, 1) := by decide +kernel
theorem dX4_letter_38 : decode cX4_letter 38 = .ok (.getfield 32, 3) := by decide +kernel
theorem dX4_letter_41 : decode cX4_letter 41 = .ok (.iload_n 1, 1) := by decide +kernel
theorem dX4_letter_42 : decode cX4_letter 42 = .ok (.invokevirtual 54, 3) := by decide +kernel
theorem dX4_letter_45 : decode cX4_letter 45 = .ok (.aload_n 0, 1) := by decide +kernel
theorem dX4_letter_46 : decode cX4_letter 46 = .ok (.getfield 32, 3) := by decide +kernel
theorem dX4_letter_49 : decode cX4_letter 49 = .ok (.getfield 51, 3) := by decide +kernel
theorem dX4_letter_52 : decode cX4_letter 52 = .ok (.ireturn, 1) := by decide +kernel
theorem xiX4_road_X2 : GoodIn wsX4_road wsX20 := goodIn_sub (fun _ h => List.mem_cons_of_mem _ (List.mem_append_left _ (List.mem_append_right _ h))) xgwX2
theorem xiX4_road_X0 : GoodIn wsX4_road wsX00 := goodIn_sub (fun _ h => List.mem_cons_of_mem _ (List.mem_append_right _ h)) xgwX0
set_option maxRecDepth 20000 in
theorem ggX4_road_X2_become : GoodIn wsX4_road wsX2_become := (goodIn_ca (goodIn_ca (goodIn_r _ [10, 11, 12, 13, 14, 15, 16, 17, 18, 19, 20, 21, 22, 23, 24, 25, 26, 27, 28, 29, 30, 31, 32] rfl (by decide +kernel)) xiX4_road_X2) xiX4_road_X0)
set_option maxRecDepth 20000 in
theorem gX4_road_X2_become : GoodIn wsX4_road (wsV RX4 58 RX2 yX2_become wsX2_become) := goodIn_app (goodIn_r _ [6, 7, 8, 9] rfl (by decide +kernel)) ggX4_road_X2_become
theorem xiX4_road_X3 : GoodIn wsX4_road wsX30 := goodIn_sub (fun _ h => List.mem_cons_of_mem _ (List.mem_append_left _ (List.mem_append_left _ (List.mem_append_right _ h)))) xgwX3
set_option maxRecDepth 20000 in
theorem ggX4_road_X3_readOnto : GoodIn wsX4_road wsX3_readOnto := (goodIn_ca (goodIn_ca (goodIn_ca (goodIn_r _ [37, 38, 39, 40, 41, 36, 42, 43, 44, 45, 46, 47, 48, 49, 50, 51, 52, 53, 54, 55, 56, 57, 58, 59, 60, 61, 62, 63, 64, 65, 66, 67, 68, 69, 70, 71, 72, 73, 74, 75, 76, 77, 78, 79, 80, 81, 82, 83, 84, 85, 86, 87, 88, 89, 90, 91, 92, 93, 94, 95, 96, 97, 98, 99, 100, 101, 102, 103, 104, 105, 106, 107, 108, 109, 110, 111, 112, 113, 114, 115, 116, 117, 118, 119, 120, 121, 122, 123, 124, 125, 126, 127, 128, 129, 130, 131, 132, 133, 134, 135, 136, 137, 138, 139, 140, 141, 142, 143, 144, 145, 146, 147, 148, 149, 150, 151, 152, 153, 154, 155, 156, 157, 158, 159, 160, 161, 162, 163, 164, 165, 166, 167, 168, 169, 170, 171, 172, 173, 174, 175, 176, 177, 9, 178, 11, 17, 179, 180, 181, 182, 12, 13, 14, 15, 183, 184, 185, 186, 187, 188, 189, 190, 191, 192, 193, 194, 195, 196, 197, 198, 199, 200, 201, 26, 202, 30, 203, 204, 205, 206, 31] rfl (by decide +kernel)) xiX4_road_X3) xiX4_road_X2) xiX4_road_X0)
set_option maxRecDepth 20000 in
theorem gX4_road_X3_readOnto : GoodIn wsX4_road (wsV RX4 62 RX3 yX3_readOnto wsX3_readOnto) := goodIn_app (goodIn_r _ [33, 34, 35, 36] rfl (by decide +kernel)) ggX4_road_X3_readOnto
theorem dX4_road_0 : decode cX4_road 0 = .ok (.aload_n 0, 1) := by decide +kernel
theorem dX4_road_1 : decode cX4_road 1 = .ok (.getfield 16, 3) := by decide +kernel
theorem dX4_road_4 : decode cX4_road 4 = .ok (.aload_n 0, 1) := by decide +kernel
theorem dX4_road_5 : decode cX4_road 5 = .ok (.getfield 10, 3) := by decide +kernel
theorem dX4_road_8 : decode cX4_road 8 = .ok (.invokevirtual 58, 3) := by decide +kernel
theorem dX4_road_11 : decode cX4_road 11 = .ok (.aload_n 0, 1) := by decide +kernel
theorem dX4_road_12 : decode cX4_road 12 = .ok (.getfield 32, 3) := by decide +kernel
theorem dX4_road_15 : decode cX4_road 15 = .ok (.aload_n 0, 1) := by decide +kernel
theorem dX4_road_16 : decode cX4_road 16 = .ok (.getfield 16, 3) := by decide +kernel
theorem dX4_road_19 : decode cX4_road 19 = .ok (.invokevirtual 62, 3) := by decide +kernel
theorem dX4_road_22 : decode cX4_road 22 = .ok (.istore_n 1, 1) := by decide +kernel
theorem dX4_road_23 : decode cX4_road 23 = .ok (.aload_n 0, 1) := by decide +kernel
theorem dX4_road_24 : decode cX4_road 24 = .ok (.getfield 32, 3) := by decide +kernel
theorem dX4_road_27 : decode cX4_road 27 = .ok (.iconst 0, 1) := by decide +kernel
theorem dX4_road_28 : decode cX4_road 28 = .ok (.putfield 51, 3) := by decide +kernel
theorem dX4_road_31 : decode cX4_road 31 = .ok (.iload_n 1, 1) := by decide +kernel
theorem dX4_road_32 : decode cX4_road 32 = .ok (.ifCond .le 19, 3) := by decide +kernel
theorem dX4_road_35 : decode cX4_road 35 = .ok (.aload_n 0, 1) := by decide +kernel
theorem dX4_road_36 : decode cX4_road 36 = .ok (.getfield 10, 3) := by decide +kernel
theorem dX4_road_39 : decode cX4_road 39 = .ok (.aload_n 0, 1) := by decide +kernel
theorem dX4_road_40 : decode cX4_road 40 = .ok (.getfield 16, 3) := by decide +kernel
theorem dX4_road_43 : decode cX4_road 43 = .ok (.invokevirtual 58, 3) := by decide +kernel
theorem dX4_road_46 : decode cX4_road 46 = .ok (.aload_n 0, 1) := by decide +kernel
theorem dX4_road_47 : decode cX4_road 47 = .ok (.iconst (-1), 1) := by decide +kernel
theorem dX4_road_48 : decode cX4_road 48 = .ok (.putfield 43, 3) := by decide +kernel
theorem dX4_road_51 : decode cX4_road 51 = .ok (.iload_n 1, 1) := by decide +kernel
theorem dX4_road_52 : decode cX4_road 52 = .ok (.ireturn, 1) := by decide +kernel
theorem xiX4_stop_X4 : GoodIn wsX4_stop wsX40 := goodIn_sub (fun _ h => List.mem_cons_of_mem _ (List.mem_append_left _ (List.mem_append_right _ h))) xgwX4
theorem xiX4_stop_X2 : GoodIn wsX4_stop wsX20 := goodIn_sub (fun _ h => List.mem_cons_of_mem _ (List.mem_append_right _ h)) xgwX2
set_option maxRecDepth 20000 in
theorem ggX4_stop_X4_noStop : GoodIn wsX4_stop wsX4_noStop := (goodIn_ca (goodIn_ca (goodIn_r _ [7, 1, 8] rfl (by decide +kernel)) xiX4_stop_X4) xiX4_stop_X2)
set_option maxRecDepth 20000 in
theorem gX4_stop_X4_noStop : GoodIn wsX4_stop (wsV RX4 66 RX4 yX4_noStop wsX4_noStop) := goodIn_app (goodIn_r _ [3, 4, 5, 6] rfl (by decide +kernel)) ggX4_stop_X4_noStop
set_option maxRecDepth 20000 in
theorem ggX4_stop_X4_refuse : GoodIn wsX4_stop wsX4_refuse := (goodIn_ca (goodIn_r _ [12, 13] rfl (by decide +kernel)) xiX4_stop_X4)
set_option maxRecDepth 20000 in
theorem gX4_stop_X4_refuse : GoodIn wsX4_stop (wsV RX4 47 RX4 yX4_refuse wsX4_refuse) := goodIn_app (goodIn_r _ [9, 10, 11, 6] rfl (by decide +kernel)) ggX4_stop_X4_refuse
set_option maxRecDepth 20000 in
theorem ggX4_stop_X2_walkHome : GoodIn wsX4_stop wsX2_walkHome := (goodIn_ca (goodIn_r _ [18, 19, 20, 21, 22, 23, 17, 24, 25, 26, 27, 28, 29, 30] rfl (by decide +kernel)) xiX4_stop_X2)
set_option maxRecDepth 20000 in
theorem gX4_stop_X2_walkHome : GoodIn wsX4_stop (wsV RX4 73 RX2 yX2_walkHome wsX2_walkHome) := goodIn_app (goodIn_r _ [14, 15, 16, 17] rfl (by decide +kernel)) ggX4_stop_X2_walkHome
theorem dX4_stop_0 : decode cX4_stop 0 = .ok (.aload_n 0, 1) := by decide +kernel
theorem dX4_stop_1 : decode cX4_stop 1 = .ok (.iload_n 1, 1) := by decide +kernel
theorem dX4_stop_2 : decode cX4_stop 2 = .ok (.invokevirtual 66, 3) := by decide +kernel
theorem dX4_stop_5 : decode cX4_stop 5 = .ok (.ifCond .eq 9, 3) := by decide +kernel
theorem dX4_stop_8 : decode cX4_stop 8 = .ok (.aload_n 0, 1) := by decide +kernel
theorem dX4_stop_9 : decode cX4_stop 9 = .ok (.iconst (-1), 1) := by decide +kernel
theorem dX4_stop_10 : decode cX4_stop 10 = .ok (.invokevirtual 47, 3) := by decide +kernel
theorem dX4_stop_13 : decode cX4_stop 13 = .ok (.ireturn, 1) := by decide +kernel
theorem dX4_stop_14 : decode cX4_stop 14 = .ok (.iload_n 2, 1) := by decide +kernel
theorem dX4_stop_15 : decode cX4_stop 15 = .ok (.tableswitch 62 0 2 #[25, 35, 53], 25) := by decide +kernel
theorem dX4_stop_40 : decode cX4_stop 40 = .ok (.aload_n 0, 1) := by decide +kernel
theorem dX4_stop_41 : decode cX4_stop 41 = .ok (.getfield 10, 3) := by decide +kernel
theorem dX4_stop_44 : decode cX4_stop 44 = .ok (.getfield 70, 3) := by decide +kernel
theorem dX4_stop_47 : decode cX4_stop 47 = .ok (.iload_n 1, 1) := by decide +kernel
theorem dX4_stop_48 : decode cX4_stop 48 = .ok (.iaload, 1) := by decide +kernel
theorem dX4_stop_49 : decode cX4_stop 49 = .ok (.ireturn, 1) := by decide +kernel
theorem dX4_stop_50 : decode cX4_stop 50 = .ok (.aload_n 0, 1) := by decide +kernel
theorem dX4_stop_51 : decode cX4_stop 51 = .ok (.getfield 10, 3) := by decide +kernel
theorem dX4_stop_54 : decode cX4_stop 54 = .ok (.iconst 0, 1) := by decide +kernel
theorem dX4_stop_55 : decode cX4_stop 55 = .ok (.invokevirtual 73, 3) := by decide +kernel
theorem dX4_stop_58 : decode cX4_stop 58 = .ok (.aload_n 0, 1) := by decide +kernel
theorem dX4_stop_59 : decode cX4_stop 59 = .ok (.getfield 10, 3) := by decide +kernel
theorem dX4_stop_62 : decode cX4_stop 62 = .ok (.iload_n 1, 1) := by decide +kernel
theorem dX4_stop_63 : decode cX4_stop 63 = .ok (.invokevirtual 73, 3) := by decide +kernel
theorem dX4_stop_66 : decode cX4_stop 66 = .ok (.isub, 1) := by decide +kernel
theorem dX4_stop_67 : decode cX4_stop 67 = .ok (.ireturn, 1) := by decide +kernel
theorem dX4_stop_68 : decode cX4_stop 68 = .ok (.aload_n 0, 1) := by decide +kernel
theorem dX4_stop_69 : decode cX4_stop 69 = .ok (.getfield 10, 3) := by decide +kernel
theorem dX4_stop_72 : decode cX4_stop 72 = .ok (.iload_n 1, 1) := by decide +kernel
theorem dX4_stop_73 : decode cX4_stop 73 = .ok (.invokevirtual 73, 3) := by decide +kernel
theorem dX4_stop_76 : decode cX4_stop 76 = .ok (.ireturn, 1) := by decide +kernel
theorem dX4_stop_77 : decode cX4_stop 77 = .ok (.aload_n 0, 1) := by decide +kernel
theorem dX4_stop_78 : decode cX4_stop 78 = .ok (.bipush (-2), 2) := by decide +kernel
theorem dX4_stop_80 : decode cX4_stop 80 = .ok (.invokevirtual 47, 3) := by decide +kernel
theorem dX4_stop_83 : decode cX4_stop 83 = .ok (.ireturn, 1) := by decide +kernel
theorem xiX4_line_X4 : GoodIn wsX4_line wsX40 := goodIn_sub (fun _ h => List.mem_cons_of_mem _ (List.mem_append_left _ (List.mem_append_left _ (List.mem_append_right _ h)))) xgwX4
theorem xiX4_line_X2 : GoodIn wsX4_line wsX20 := goodIn_sub (fun _ h => List.mem_cons_of_mem _ (List.mem_append_left _ (List.mem_append_right _ h))) xgwX2
set_option maxRecDepth 20000 in
theorem ggX4_line_X4_noLine : GoodIn wsX4_line wsX4_noLine := (goodIn_ca (goodIn_ca (goodIn_r _ [10, 1, 11] rfl (by decide +kernel)) xiX4_line_X4) xiX4_line_X2)
set_option maxRecDepth 20000 in
theorem gX4_line_X4_noLine : GoodIn wsX4_line (wsV RX4 76 RX4 yX4_noLine wsX4_noLine) := goodIn_app (goodIn_r _ [6, 7, 8, 9] rfl (by decide +kernel)) ggX4_line_X4_noLine
set_option maxRecDepth 20000 in
theorem ggX4_line_X4_refuse : GoodIn wsX4_line wsX4_refuse := (goodIn_ca (goodIn_r _ [15, 16] rfl (by decide +kernel)) xiX4_line_X4)
set_option maxRecDepth 20000 in
theorem gX4_line_X4_refuse : GoodIn wsX4_line (wsV RX4 47 RX4 yX4_refuse wsX4_refuse) := goodIn_app (goodIn_r _ [12, 13, 14, 9] rfl (by decide +kernel)) ggX4_line_X4_refuse
theorem xiX4_line_X0 : GoodIn wsX4_line wsX00 := goodIn_sub (fun _ h => List.mem_cons_of_mem _ (List.mem_append_right _ h)) xgwX0
set_option maxRecDepth 20000 in
theorem ggX4_line_X0_total : GoodIn wsX4_line wsX0_total := (goodIn_ca (goodIn_r _ [21, 22, 23, 24, 25, 20, 26, 27] rfl (by decide +kernel)) xiX4_line_X0)
set_option maxRecDepth 20000 in
theorem gX4_line_X0_total : GoodIn wsX4_line (wsV RX4 94 RX0 yX0_total wsX0_total) := goodIn_app (goodIn_r _ [17, 18, 19, 20] rfl (by decide +kernel)) ggX4_line_X0_total
set_option maxRecDepth 20000 in
theorem ggX4_line_X2_last : GoodIn wsX4_line wsX2_last := (goodIn_ca (goodIn_r _ [32, 33] rfl (by decide +kernel)) xiX4_line_X2)
set_option maxRecDepth 20000 in
theorem gX4_line_X2_last : GoodIn wsX4_line (wsV RX4 98 RX2 yX2_last wsX2_last) := goodIn_app (goodIn_r _ [28, 29, 30, 31] rfl (by decide +kernel)) ggX4_line_X2_last
set_option maxRecDepth 20000 in
theorem ggX4_line_X0_rideTo : GoodIn wsX4_line wsX0_rideTo := (goodIn_ca (goodIn_r _ [37, 38, 39] rfl (by decide +kernel)) xiX4_line_X0)
set_option maxRecDepth 20000 in
theorem gX4_line_X0_rideTo : GoodIn wsX4_line (wsV RX4 101 RX0 yX0_rideTo wsX0_rideTo) := goodIn_app (goodIn_r _ [34, 35, 36, 20] rfl (by decide +kernel)) ggX4_line_X0_rideTo
theorem dX4_line_0 : decode cX4_line 0 = .ok (.aload_n 0, 1) := by decide +kernel
theorem dX4_line_1 : decode cX4_line 1 = .ok (.iload_n 1, 1) := by decide +kernel
theorem dX4_line_2 : decode cX4_line 2 = .ok (.invokevirtual 76, 3) := by decide +kernel
theorem dX4_line_5 : decode cX4_line 5 = .ok (.ifCond .eq 9, 3) := by decide +kernel
theorem dX4_line_8 : decode cX4_line 8 = .ok (.aload_n 0, 1) := by decide +kernel
theorem dX4_line_9 : decode cX4_line 9 = .ok (.iconst (-1), 1) := by decide +kernel
theorem dX4_line_10 : decode cX4_line 10 = .ok (.invokevirtual 47, 3) := by decide +kernel
theorem dX4_line_13 : decode cX4_line 13 = .ok (.ireturn, 1) := by decide +kernel
theorem dX4_line_14 : decode cX4_line 14 = .ok (.aload_n 0, 1) := by decide +kernel
theorem dX4_line_15 : decode cX4_line 15 = .ok (.getfield 10, 3) := by decide +kernel
theorem dX4_line_18 : decode cX4_line 18 = .ok (.getfield 79, 3) := by decide +kernel
theorem dX4_line_21 : decode cX4_line 21 = .ok (.iload_n 1, 1) := by decide +kernel
theorem dX4_line_22 : decode cX4_line 22 = .ok (.aaload, 1) := by decide +kernel
theorem dX4_line_23 : decode cX4_line 23 = .ok (.astore_n 3, 1) := by decide +kernel
theorem dX4_line_24 : decode cX4_line 24 = .ok (.iload_n 2, 1) := by decide +kernel
theorem dX4_line_25 : decode cX4_line 25 = .ok (.tableswitch 67 0 4 #[35, 40, 45, 50, 55], 35) := by decide +kernel
theorem dX4_line_60 : decode cX4_line 60 = .ok (.aload_n 3, 1) := by decide +kernel
theorem dX4_line_61 : decode cX4_line 61 = .ok (.getfield 83, 3) := by decide +kernel
theorem dX4_line_64 : decode cX4_line 64 = .ok (.ireturn, 1) := by decide +kernel
theorem dX4_line_65 : decode cX4_line 65 = .ok (.aload_n 3, 1) := by decide +kernel
theorem dX4_line_66 : decode cX4_line 66 = .ok (.getfield 88, 3) := by decide +kernel
theorem dX4_line_69 : decode cX4_line 69 = .ok (.ireturn, 1) := by decide +kernel
theorem dX4_line_70 : decode cX4_line 70 = .ok (.aload_n 3, 1) := by decide +kernel
theorem dX4_line_71 : decode cX4_line 71 = .ok (.getfield 91, 3) := by decide +kernel
theorem dX4_line_74 : decode cX4_line 74 = .ok (.ireturn, 1) := by decide +kernel
theorem dX4_line_75 : decode cX4_line 75 = .ok (.aload_n 3, 1) := by decide +kernel
theorem dX4_line_76 : decode cX4_line 76 = .ok (.invokevirtual 94, 3) := by decide +kernel
theorem dX4_line_79 : decode cX4_line 79 = .ok (.ireturn, 1) := by decide +kernel
theorem dX4_line_80 : decode cX4_line 80 = .ok (.aload_n 3, 1) := by decide +kernel
theorem dX4_line_81 : decode cX4_line 81 = .ok (.aload_n 0, 1) := by decide +kernel
theorem dX4_line_82 : decode cX4_line 82 = .ok (.getfield 10, 3) := by decide +kernel
theorem dX4_line_85 : decode cX4_line 85 = .ok (.invokevirtual 98, 3) := by decide +kernel
theorem dX4_line_88 : decode cX4_line 88 = .ok (.invokevirtual 101, 3) := by decide +kernel
theorem dX4_line_91 : decode cX4_line 91 = .ok (.ireturn, 1) := by decide +kernel
theorem dX4_line_92 : decode cX4_line 92 = .ok (.aload_n 0, 1) := by decide +kernel
theorem dX4_line_93 : decode cX4_line 93 = .ok (.bipush (-2), 2) := by decide +kernel
theorem dX4_line_95 : decode cX4_line 95 = .ok (.invokevirtual 47, 3) := by decide +kernel
theorem dX4_line_98 : decode cX4_line 98 = .ok (.ireturn, 1) := by decide +kernel
theorem xiX4_chance_X4 : GoodIn wsX4_chance wsX40 := goodIn_sub (fun _ h => List.mem_cons_of_mem _ (List.mem_append_left _ (List.mem_append_left _ (List.mem_append_right _ h)))) xgwX4
theorem xiX4_chance_X2 : GoodIn wsX4_chance wsX20 := goodIn_sub (fun _ h => List.mem_cons_of_mem _ (List.mem_append_left _ (List.mem_append_right _ h))) xgwX2
set_option maxRecDepth 20000 in
theorem ggX4_chance_X4_noLine : GoodIn wsX4_chance wsX4_noLine := (goodIn_ca (goodIn_ca (goodIn_r _ [7, 1, 8] rfl (by decide +kernel)) xiX4_chance_X4) xiX4_chance_X2)
set_option maxRecDepth 20000 in
theorem gX4_chance_X4_noLine : GoodIn wsX4_chance (wsV RX4 76 RX4 yX4_noLine wsX4_noLine) := goodIn_app (goodIn_r _ [3, 4, 5, 6] rfl (by decide +kernel)) ggX4_chance_X4_noLine
set_option maxRecDepth 20000 in
theorem ggX4_chance_X4_refuse : GoodIn wsX4_chance wsX4_refuse := (goodIn_ca (goodIn_r _ [12, 13] rfl (by decide +kernel)) xiX4_chance_X4)
set_option maxRecDepth 20000 in
theorem gX4_chance_X4_refuse : GoodIn wsX4_chance (wsV RX4 47 RX4 yX4_refuse wsX4_refuse) := goodIn_app (goodIn_r _ [9, 10, 11, 6] rfl (by decide +kernel)) ggX4_chance_X4_refuse
theorem xiX4_chance_X0 : GoodIn wsX4_chance wsX00 := goodIn_sub (fun _ h => List.mem_cons_of_mem _ (List.mem_append_right _ h)) xgwX0
set_option maxRecDepth 20000 in
theorem ggX4_chance_X0_weight : GoodIn wsX4_chance wsX0_weight := (goodIn_ca (goodIn_r _ [18, 19, 20] rfl (by decide +kernel)) xiX4_chance_X0)
set_option maxRecDepth 20000 in
theorem gX4_chance_X0_weight : GoodIn wsX4_chance (wsV RX4 104 RX0 yX0_weight wsX0_weight) := goodIn_app (goodIn_r _ [14, 15, 16, 17] rfl (by decide +kernel)) ggX4_chance_X0_weight
theorem dX4_chance_0 : decode cX4_chance 0 = .ok (.aload_n 0, 1) := by decide +kernel
theorem dX4_chance_1 : decode cX4_chance 1 = .ok (.iload_n 1, 1) := by decide +kernel
theorem dX4_chance_2 : decode cX4_chance 2 = .ok (.invokevirtual 76, 3) := by decide +kernel
theorem dX4_chance_5 : decode cX4_chance 5 = .ok (.ifCond .eq 9, 3) := by decide +kernel
theorem dX4_chance_8 : decode cX4_chance 8 = .ok (.aload_n 0, 1) := by decide +kernel
theorem dX4_chance_9 : decode cX4_chance 9 = .ok (.iconst (-1), 1) := by decide +kernel
theorem dX4_chance_10 : decode cX4_chance 10 = .ok (.invokevirtual 47, 3) := by decide +kernel
theorem dX4_chance_13 : decode cX4_chance 13 = .ok (.ireturn, 1) := by decide +kernel
theorem dX4_chance_14 : decode cX4_chance 14 = .ok (.iload_n 2, 1) := by decide +kernel
theorem dX4_chance_15 : decode cX4_chance 15 = .ok (.ifCond .ge 10, 3) := by decide +kernel
theorem dX4_chance_18 : decode cX4_chance 18 = .ok (.aload_n 0, 1) := by decide +kernel
theorem dX4_chance_19 : decode cX4_chance 19 = .ok (.bipush (-4), 2) := by decide +kernel
theorem dX4_chance_21 : decode cX4_chance 21 = .ok (.invokevirtual 47, 3) := by decide +kernel
theorem dX4_chance_24 : decode cX4_chance 24 = .ok (.ireturn, 1) := by decide +kernel
theorem dX4_chance_25 : decode cX4_chance 25 = .ok (.iload_n 2, 1) := by decide +kernel
theorem dX4_chance_26 : decode cX4_chance 26 = .ok (.bipush 12, 2) := by decide +kernel
theorem dX4_chance_28 : decode cX4_chance 28 = .ok (.if_icmp .lt 10, 3) := by decide +kernel
theorem dX4_chance_31 : decode cX4_chance 31 = .ok (.aload_n 0, 1) := by decide +kernel
theorem dX4_chance_32 : decode cX4_chance 32 = .ok (.bipush (-6), 2) := by decide +kernel
theorem dX4_chance_34 : decode cX4_chance 34 = .ok (.invokevirtual 47, 3) := by decide +kernel
theorem dX4_chance_37 : decode cX4_chance 37 = .ok (.ireturn, 1) := by decide +kernel
theorem dX4_chance_38 : decode cX4_chance 38 = .ok (.aload_n 0, 1) := by decide +kernel
theorem dX4_chance_39 : decode cX4_chance 39 = .ok (.getfield 10, 3) := by decide +kernel
theorem dX4_chance_42 : decode cX4_chance 42 = .ok (.getfield 79, 3) := by decide +kernel
theorem dX4_chance_45 : decode cX4_chance 45 = .ok (.iload_n 1, 1) := by decide +kernel
theorem dX4_chance_46 : decode cX4_chance 46 = .ok (.aaload, 1) := by decide +kernel
theorem dX4_chance_47 : decode cX4_chance 47 = .ok (.iload_n 2, 1) := by decide +kernel
theorem dX4_chance_48 : decode cX4_chance 48 = .ok (.invokevirtual 104, 3) := by decide +kernel
theorem dX4_chance_51 : decode cX4_chance 51 = .ok (.ireturn, 1) := by decide +kernel
theorem xiX4_there_X4 : GoodIn wsX4_there wsX40 := goodIn_sub (fun _ h => List.mem_cons_of_mem _ (List.mem_append_left _ (List.mem_append_left _ (List.mem_append_right _ h)))) xgwX4
theorem xiX4_there_X2 : GoodIn wsX4_there wsX20 := goodIn_sub (fun _ h => List.mem_cons_of_mem _ (List.mem_append_left _ (List.mem_append_right _ h))) xgwX2
set_option maxRecDepth 20000 in
theorem ggX4_there_X4_noLine : GoodIn wsX4_there wsX4_noLine := (goodIn_ca (goodIn_ca (goodIn_r _ [7, 1, 8] rfl (by decide +kernel)) xiX4_there_X4) xiX4_there_X2)
set_option maxRecDepth 20000 in
theorem gX4_there_X4_noLine : GoodIn wsX4_there (wsV RX4 76 RX4 yX4_noLine wsX4_noLine) := goodIn_app (goodIn_r _ [3, 4, 5, 6] rfl (by decide +kernel)) ggX4_there_X4_noLine
set_option maxRecDepth 20000 in
theorem ggX4_there_X4_noStop : GoodIn wsX4_there wsX4_noStop := (goodIn_ca (goodIn_ca (goodIn_r _ [12, 1, 13] rfl (by decide +kernel)) xiX4_there_X4) xiX4_there_X2)
set_option maxRecDepth 20000 in
theorem gX4_there_X4_noStop : GoodIn wsX4_there (wsV RX4 66 RX4 yX4_noStop wsX4_noStop) := goodIn_app (goodIn_r _ [9, 10, 11, 6] rfl (by decide +kernel)) ggX4_there_X4_noStop
set_option maxRecDepth 20000 in
theorem ggX4_there_X4_refuse : GoodIn wsX4_there wsX4_refuse := (goodIn_ca (goodIn_r _ [17, 18] rfl (by decide +kernel)) xiX4_there_X4)
set_option maxRecDepth 20000 in
theorem gX4_there_X4_refuse : GoodIn wsX4_there (wsV RX4 47 RX4 yX4_refuse wsX4_refuse) := goodIn_app (goodIn_r _ [14, 15, 16, 6] rfl (by decide +kernel)) ggX4_there_X4_refuse
set_option maxRecDepth 20000 in
theorem ggX4_there_X2_last : GoodIn wsX4_there wsX2_last := (goodIn_ca (goodIn_r _ [23, 24] rfl (by decide +kernel)) xiX4_there_X2)
set_option maxRecDepth 20000 in
theorem gX4_there_X2_last : GoodIn wsX4_there (wsV RX4 98 RX2 yX2_last wsX2_last) := goodIn_app (goodIn_r _ [19, 20, 21, 22] rfl (by decide +kernel)) ggX4_there_X2_last
theorem xiX4_there_X0 : GoodIn wsX4_there wsX00 := goodIn_sub (fun _ h => List.mem_cons_of_mem _ (List.mem_append_right _ h)) xgwX0
set_option maxRecDepth 20000 in
theorem ggX4_there_X0_halts : GoodIn wsX4_there wsX0_halts := (goodIn_ca (goodIn_r _ [29, 30] rfl (by decide +kernel)) xiX4_there_X0)
set_option maxRecDepth 20000 in
theorem gX4_there_X0_halts : GoodIn wsX4_there (wsV RX4 107 RX0 yX0_halts wsX0_halts) := goodIn_app (goodIn_r _ [25, 26, 27, 28] rfl (by decide +kernel)) ggX4_there_X0_halts
set_option maxRecDepth 20000 in
theorem ggX4_there_X0_rideTo : GoodIn wsX4_there wsX0_rideTo := (goodIn_ca (goodIn_r _ [34, 30, 35] rfl (by decide +kernel)) xiX4_there_X0)
set_option maxRecDepth 20000 in
theorem gX4_there_X0_rideTo : GoodIn wsX4_there (wsV RX4 101 RX0 yX0_rideTo wsX0_rideTo) := goodIn_app (goodIn_r _ [31, 32, 33, 28] rfl (by decide +kernel)) ggX4_there_X0_rideTo
theorem dX4_there_0 : decode cX4_there 0 = .ok (.aload_n 0, 1) := by decide +kernel
theorem dX4_there_1 : decode cX4_there 1 = .ok (.iload_n 1, 1) := by decide +kernel
theorem dX4_there_2 : decode cX4_there 2 = .ok (.invokevirtual 76, 3) := by decide +kernel
theorem dX4_there_5 : decode cX4_there 5 = .ok (.ifCond .ne 11, 3) := by decide +kernel
theorem dX4_there_8 : decode cX4_there 8 = .ok (.aload_n 0, 1) := by decide +kernel
theorem dX4_there_9 : decode cX4_there 9 = .ok (.iload_n 2, 1) := by decide +kernel
theorem dX4_there_10 : decode cX4_there 10 = .ok (.invokevirtual 66, 3) := by decide +kernel
theorem dX4_there_13 : decode cX4_there 13 = .ok (.ifCond .eq 9, 3) := by decide +kernel
theorem dX4_there_16 : decode cX4_there 16 = .ok (.aload_n 0, 1) := by decide +kernel
theorem dX4_there_17 : decode cX4_there 17 = .ok (.iconst (-1), 1) := by decide +kernel
theorem dX4_there_18 : decode cX4_there 18 = .ok (.invokevirtual 47, 3) := by decide +kernel
theorem dX4_there_21 : decode cX4_there 21 = .ok (.ireturn, 1) := by decide +kernel
theorem dX4_there_22 : decode cX4_there 22 = .ok (.aload_n 0, 1) := by decide +kernel
theorem dX4_there_23 : decode cX4_there 23 = .ok (.getfield 10, 3) := by decide +kernel
theorem dX4_there_26 : decode cX4_there 26 = .ok (.getfield 79, 3) := by decide +kernel
theorem dX4_there_29 : decode cX4_there 29 = .ok (.iload_n 1, 1) := by decide +kernel
theorem dX4_there_30 : decode cX4_there 30 = .ok (.aaload, 1) := by decide +kernel
theorem dX4_there_31 : decode cX4_there 31 = .ok (.astore_n 3, 1) := by decide +kernel
theorem dX4_there_32 : decode cX4_there 32 = .ok (.aload_n 3, 1) := by decide +kernel
theorem dX4_there_33 : decode cX4_there 33 = .ok (.iload_n 2, 1) := by decide +kernel
theorem dX4_there_34 : decode cX4_there 34 = .ok (.aload_n 0, 1) := by decide +kernel
theorem dX4_there_35 : decode cX4_there 35 = .ok (.getfield 10, 3) := by decide +kernel
theorem dX4_there_38 : decode cX4_there 38 = .ok (.invokevirtual 98, 3) := by decide +kernel
theorem dX4_there_41 : decode cX4_there 41 = .ok (.invokevirtual 107, 3) := by decide +kernel
theorem dX4_there_44 : decode cX4_there 44 = .ok (.ifCond .eq 11, 3) := by decide +kernel
theorem dX4_there_47 : decode cX4_there 47 = .ok (.aload_n 3, 1) := by decide +kernel
theorem dX4_there_48 : decode cX4_there 48 = .ok (.iload_n 2, 1) := by decide +kernel
theorem dX4_there_49 : decode cX4_there 49 = .ok (.invokevirtual 101, 3) := by decide +kernel
theorem dX4_there_52 : decode cX4_there 52 = .ok (.goto 5, 3) := by decide +kernel
theorem dX4_there_55 : decode cX4_there 55 = .ok (.bipush (-9), 2) := by decide +kernel
theorem dX4_there_57 : decode cX4_there 57 = .ok (.ireturn, 1) := by decide +kernel
theorem xiX4_set_X4 : GoodIn wsX4_set wsX40 := goodIn_sub (fun _ h => List.mem_cons_of_mem _ (List.mem_append_left _ (List.mem_append_right _ h))) xgwX4
set_option maxRecDepth 20000 in
theorem ggX4_set_X4_refuse : GoodIn wsX4_set wsX4_refuse := (goodIn_ca (goodIn_r _ [7, 8] rfl (by decide +kernel)) xiX4_set_X4)
set_option maxRecDepth 20000 in
theorem gX4_set_X4_refuse : GoodIn wsX4_set (wsV RX4 47 RX4 yX4_refuse wsX4_refuse) := goodIn_app (goodIn_r _ [3, 4, 5, 6] rfl (by decide +kernel)) ggX4_set_X4_refuse
set_option maxRecDepth 20000 in
theorem ggX4_set_X2_least : GoodIn wsX4_set wsX2_least := goodIn_r _ [12] rfl (by decide +kernel)
set_option maxRecDepth 20000 in
theorem gX4_set_X2_least : GoodIn wsX4_set (va_wsS RX4 111 yX2_least wsX2_least) := goodIn_app (goodIn_r _ [9, 10, 11] rfl (by decide +kernel)) ggX4_set_X2_least
set_option maxRecDepth 20000 in
theorem ggX4_set_X2_most : GoodIn wsX4_set wsX2_most := goodIn_r _ [15] rfl (by decide +kernel)
set_option maxRecDepth 20000 in
theorem gX4_set_X2_most : GoodIn wsX4_set (va_wsS RX4 114 yX2_most wsX2_most) := goodIn_app (goodIn_r _ [13, 14, 11] rfl (by decide +kernel)) ggX4_set_X2_most
theorem xiX4_set_X2 : GoodIn wsX4_set wsX20 := goodIn_sub (fun _ h => List.mem_cons_of_mem _ (List.mem_append_right _ h)) xgwX2
set_option maxRecDepth 20000 in
theorem ggX4_set_X2_setting : GoodIn wsX4_set wsX2_setting := (goodIn_ca (goodIn_r _ [19, 20, 21, 22, 23] rfl (by decide +kernel)) xiX4_set_X2)
set_option maxRecDepth 20000 in
theorem gX4_set_X2_setting : GoodIn wsX4_set (wsV RX4 117 RX2 yX2_setting wsX2_setting) := goodIn_app (goodIn_r _ [16, 17, 18, 11] rfl (by decide +kernel)) ggX4_set_X2_setting
set_option maxRecDepth 20000 in
theorem ggX4_set_X2_change : GoodIn wsX4_set wsX2_change := (goodIn_ca (goodIn_r _ [27, 20, 21, 22, 23, 28, 10, 11, 12, 29, 14, 15] rfl (by decide +kernel)) xiX4_set_X2)
set_option maxRecDepth 20000 in
theorem gX4_set_X2_change : GoodIn wsX4_set (wsV RX4 120 RX2 yX2_change wsX2_change) := goodIn_app (goodIn_r _ [24, 25, 26, 11] rfl (by decide +kernel)) ggX4_set_X2_change
theorem dX4_set_0 : decode cX4_set 0 = .ok (.iload_n 1, 1) := by decide +kernel
theorem dX4_set_1 : decode cX4_set 1 = .ok (.ifCond .lt 8, 3) := by decide +kernel
theorem dX4_set_4 : decode cX4_set 4 = .ok (.iload_n 1, 1) := by decide +kernel
theorem dX4_set_5 : decode cX4_set 5 = .ok (.iconst 3, 1) := by decide +kernel
theorem dX4_set_6 : decode cX4_set 6 = .ok (.if_icmp .le 10, 3) := by decide +kernel
theorem dX4_set_9 : decode cX4_set 9 = .ok (.aload_n 0, 1) := by decide +kernel
theorem dX4_set_10 : decode cX4_set 10 = .ok (.bipush (-2), 2) := by decide +kernel
theorem dX4_set_12 : decode cX4_set 12 = .ok (.invokevirtual 47, 3) := by decide +kernel
theorem dX4_set_15 : decode cX4_set 15 = .ok (.ireturn, 1) := by decide +kernel
theorem dX4_set_16 : decode cX4_set 16 = .ok (.iload_n 2, 1) := by decide +kernel
theorem dX4_set_17 : decode cX4_set 17 = .ok (.iload_n 1, 1) := by decide +kernel
theorem dX4_set_18 : decode cX4_set 18 = .ok (.invokestatic 111, 3) := by decide +kernel
theorem dX4_set_21 : decode cX4_set 21 = .ok (.if_icmp .ge 10, 3) := by decide +kernel
theorem dX4_set_24 : decode cX4_set 24 = .ok (.aload_n 0, 1) := by decide +kernel
theorem dX4_set_25 : decode cX4_set 25 = .ok (.bipush (-4), 2) := by decide +kernel
theorem dX4_set_27 : decode cX4_set 27 = .ok (.invokevirtual 47, 3) := by decide +kernel
theorem dX4_set_30 : decode cX4_set 30 = .ok (.ireturn, 1) := by decide +kernel
theorem dX4_set_31 : decode cX4_set 31 = .ok (.iload_n 2, 1) := by decide +kernel
theorem dX4_set_32 : decode cX4_set 32 = .ok (.iload_n 1, 1) := by decide +kernel
theorem dX4_set_33 : decode cX4_set 33 = .ok (.invokestatic 114, 3) := by decide +kernel
theorem dX4_set_36 : decode cX4_set 36 = .ok (.if_icmp .le 10, 3) := by decide +kernel
theorem dX4_set_39 : decode cX4_set 39 = .ok (.aload_n 0, 1) := by decide +kernel
theorem dX4_set_40 : decode cX4_set 40 = .ok (.bipush (-6), 2) := by decide +kernel
theorem dX4_set_42 : decode cX4_set 42 = .ok (.invokevirtual 47, 3) := by decide +kernel
theorem dX4_set_45 : decode cX4_set 45 = .ok (.ireturn, 1) := by decide +kernel
theorem dX4_set_46 : decode cX4_set 46 = .ok (.aload_n 0, 1) := by decide +kernel
theorem dX4_set_47 : decode cX4_set 47 = .ok (.getfield 10, 3) := by decide +kernel
theorem dX4_set_50 : decode cX4_set 50 = .ok (.iload_n 1, 1) := by decide +kernel
theorem dX4_set_51 : decode cX4_set 51 = .ok (.invokevirtual 117, 3) := by decide +kernel
theorem dX4_set_54 : decode cX4_set 54 = .ok (.istore_n 3, 1) := by decide +kernel
theorem dX4_set_55 : decode cX4_set 55 = .ok (.aload_n 0, 1) := by decide +kernel
theorem dX4_set_56 : decode cX4_set 56 = .ok (.getfield 10, 3) := by decide +kernel
theorem dX4_set_59 : decode cX4_set 59 = .ok (.iload_n 1, 1) := by decide +kernel
theorem dX4_set_60 : decode cX4_set 60 = .ok (.iload_n 2, 1) := by decide +kernel
theorem dX4_set_61 : decode cX4_set 61 = .ok (.invokevirtual 120, 3) := by decide +kernel
theorem dX4_set_64 : decode cX4_set 64 = .ok (.pop, 1) := by decide +kernel
theorem dX4_set_65 : decode cX4_set 65 = .ok (.aload_n 0, 1) := by decide +kernel
theorem dX4_set_66 : decode cX4_set 66 = .ok (.iconst (-1), 1) := by decide +kernel
theorem dX4_set_67 : decode cX4_set 67 = .ok (.putfield 43, 3) := by decide +kernel
theorem dX4_set_70 : decode cX4_set 70 = .ok (.iload_n 3, 1) := by decide +kernel
theorem dX4_set_71 : decode cX4_set 71 = .ok (.ireturn, 1) := by decide +kernel
theorem xiX4_comes_X4 : GoodIn wsX4_comes wsX40 := goodIn_sub (fun _ h => List.mem_cons_of_mem _ (List.mem_append_left _ (List.mem_append_left _ (List.mem_append_right _ h)))) xgwX4
theorem xiX4_comes_X2 : GoodIn wsX4_comes wsX20 := goodIn_sub (fun _ h => List.mem_cons_of_mem _ (List.mem_append_left _ (List.mem_append_right _ h))) xgwX2
set_option maxRecDepth 20000 in
theorem ggX4_comes_X4_noLine : GoodIn wsX4_comes wsX4_noLine := (goodIn_ca (goodIn_ca (goodIn_r _ [7, 1, 8] rfl (by decide +kernel)) xiX4_comes_X4) xiX4_comes_X2)
set_option maxRecDepth 20000 in
theorem gX4_comes_X4_noLine : GoodIn wsX4_comes (wsV RX4 76 RX4 yX4_noLine wsX4_noLine) := goodIn_app (goodIn_r _ [3, 4, 5, 6] rfl (by decide +kernel)) ggX4_comes_X4_noLine
set_option maxRecDepth 20000 in
theorem ggX4_comes_X4_refuseLong : GoodIn wsX4_comes wsX4_refuseLong := (goodIn_ca (goodIn_r _ [12, 13, 14, 15, 16, 6, 17, 18] rfl (by decide +kernel)) xiX4_comes_X4)
set_option maxRecDepth 20000 in
theorem gX4_comes_X4_refuseLong : GoodIn wsX4_comes (wsV RX4 123 RX4 yX4_refuseLong wsX4_refuseLong) := goodIn_app (goodIn_r _ [9, 10, 11, 6] rfl (by decide +kernel)) ggX4_comes_X4_refuseLong
set_option maxRecDepth 20000 in
theorem ggX4_comes_X4_noPart : GoodIn wsX4_comes wsX4_noPart := goodIn_r _ [21] rfl (by decide +kernel)
set_option maxRecDepth 20000 in
theorem gX4_comes_X4_noPart : GoodIn wsX4_comes (va_wsS RX4 127 yX4_noPart wsX4_noPart) := goodIn_app (goodIn_r _ [19, 20, 6] rfl (by decide +kernel)) ggX4_comes_X4_noPart
theorem xiX4_comes_X0 : GoodIn wsX4_comes wsX00 := goodIn_sub (fun _ h => List.mem_cons_of_mem _ (List.mem_append_right _ h)) xgwX0
set_option maxRecDepth 20000 in
theorem ggX4_comes_X0_weight : GoodIn wsX4_comes wsX0_weight := (goodIn_ca (goodIn_r _ [26, 27, 28] rfl (by decide +kernel)) xiX4_comes_X0)
set_option maxRecDepth 20000 in
theorem gX4_comes_X0_weight : GoodIn wsX4_comes (wsV RX4 104 RX0 yX0_weight wsX0_weight) := goodIn_app (goodIn_r _ [22, 23, 24, 25] rfl (by decide +kernel)) ggX4_comes_X0_weight
set_option maxRecDepth 20000 in
theorem ggX4_comes_X0_total : GoodIn wsX4_comes wsX0_total := (goodIn_ca (goodIn_r _ [32, 27, 33, 34, 35, 25, 36, 28] rfl (by decide +kernel)) xiX4_comes_X0)
set_option maxRecDepth 20000 in
theorem gX4_comes_X0_total : GoodIn wsX4_comes (wsV RX4 94 RX0 yX0_total wsX0_total) := goodIn_app (goodIn_r _ [29, 30, 31, 25] rfl (by decide +kernel)) ggX4_comes_X0_total
set_option maxRecDepth 20000 in
theorem ggX4_comes_X0_weightAhead : GoodIn wsX4_comes wsX0_weightAhead := (goodIn_ca (goodIn_r _ [36, 28] rfl (by decide +kernel)) xiX4_comes_X0)
set_option maxRecDepth 20000 in
theorem gX4_comes_X0_weightAhead : GoodIn wsX4_comes (wsV RX4 130 RX0 yX0_weightAhead wsX0_weightAhead) := goodIn_app (goodIn_r _ [37, 34, 35, 25] rfl (by decide +kernel)) ggX4_comes_X0_weightAhead
set_option maxRecDepth 20000 in
theorem ggX4_comes_X4_fraction : GoodIn wsX4_comes wsX4_fraction := goodIn_r _ [40] rfl (by decide +kernel)
set_option maxRecDepth 20000 in
theorem gX4_comes_X4_fraction : GoodIn wsX4_comes (va_wsS RX4 133 yX4_fraction wsX4_fraction) := goodIn_app (goodIn_r _ [38, 39, 6] rfl (by decide +kernel)) ggX4_comes_X4_fraction
theorem dX4_comes_0 : decode cX4_comes 0 = .ok (.aload_n 0, 1) := by decide +kernel
theorem dX4_comes_1 : decode cX4_comes 1 = .ok (.iload_n 1, 1) := by decide +kernel
theorem dX4_comes_2 : decode cX4_comes 2 = .ok (.invokevirtual 76, 3) := by decide +kernel
theorem dX4_comes_5 : decode cX4_comes 5 = .ok (.ifCond .eq 9, 3) := by decide +kernel
theorem dX4_comes_8 : decode cX4_comes 8 = .ok (.aload_n 0, 1) := by decide +kernel
theorem dX4_comes_9 : decode cX4_comes 9 = .ok (.iconst (-1), 1) := by decide +kernel
theorem dX4_comes_10 : decode cX4_comes 10 = .ok (.invokevirtual 123, 3) := by decide +kernel
theorem dX4_comes_13 : decode cX4_comes 13 = .ok (.lreturn, 1) := by decide +kernel
theorem dX4_comes_14 : decode cX4_comes 14 = .ok (.iload_n 2, 1) := by decide +kernel
theorem dX4_comes_15 : decode cX4_comes 15 = .ok (.ifCond .lt 7, 3) := by decide +kernel
theorem dX4_comes_18 : decode cX4_comes 18 = .ok (.iload_n 3, 1) := by decide +kernel
theorem dX4_comes_19 : decode cX4_comes 19 = .ok (.ifCond .ge 10, 3) := by decide +kernel
theorem dX4_comes_22 : decode cX4_comes 22 = .ok (.aload_n 0, 1) := by decide +kernel
theorem dX4_comes_23 : decode cX4_comes 23 = .ok (.bipush (-4), 2) := by decide +kernel
theorem dX4_comes_25 : decode cX4_comes 25 = .ok (.invokevirtual 123, 3) := by decide +kernel
theorem dX4_comes_28 : decode cX4_comes 28 = .ok (.lreturn, 1) := by decide +kernel
theorem dX4_comes_29 : decode cX4_comes 29 = .ok (.iload_n 2, 1) := by decide +kernel
theorem dX4_comes_30 : decode cX4_comes 30 = .ok (.bipush 12, 2) := by decide +kernel
theorem dX4_comes_32 : decode cX4_comes 32 = .ok (.if_icmp .gt 9, 3) := by decide +kernel
theorem dX4_comes_35 : decode cX4_comes 35 = .ok (.iload_n 3, 1) := by decide +kernel
theorem dX4_comes_36 : decode cX4_comes 36 = .ok (.bipush 12, 2) := by decide +kernel
theorem dX4_comes_38 : decode cX4_comes 38 = .ok (.if_icmp .lt 10, 3) := by decide +kernel
theorem dX4_comes_41 : decode cX4_comes 41 = .ok (.aload_n 0, 1) := by decide +kernel
theorem dX4_comes_42 : decode cX4_comes 42 = .ok (.bipush (-6), 2) := by decide +kernel
theorem dX4_comes_44 : decode cX4_comes 44 = .ok (.invokevirtual 123, 3) := by decide +kernel
theorem dX4_comes_47 : decode cX4_comes 47 = .ok (.lreturn, 1) := by decide +kernel
theorem dX4_comes_48 : decode cX4_comes 48 = .ok (.iload 4, 2) := by decide +kernel
theorem dX4_comes_50 : decode cX4_comes 50 = .ok (.invokestatic 127, 3) := by decide +kernel
theorem dX4_comes_53 : decode cX4_comes 53 = .ok (.ifCond .eq 10, 3) := by decide +kernel
theorem dX4_comes_56 : decode cX4_comes 56 = .ok (.aload_n 0, 1) := by decide +kernel
theorem dX4_comes_57 : decode cX4_comes 57 = .ok (.bipush (-2), 2) := by decide +kernel
theorem dX4_comes_59 : decode cX4_comes 59 = .ok (.invokevirtual 123, 3) := by decide +kernel
theorem dX4_comes_62 : decode cX4_comes 62 = .ok (.lreturn, 1) := by decide +kernel
theorem dX4_comes_63 : decode cX4_comes 63 = .ok (.aload_n 0, 1) := by decide +kernel
theorem dX4_comes_64 : decode cX4_comes 64 = .ok (.getfield 10, 3) := by decide +kernel
theorem dX4_comes_67 : decode cX4_comes 67 = .ok (.getfield 79, 3) := by decide +kernel
theorem dX4_comes_70 : decode cX4_comes 70 = .ok (.iload_n 1, 1) := by decide +kernel
theorem dX4_comes_71 : decode cX4_comes 71 = .ok (.aaload, 1) := by decide +kernel
theorem dX4_comes_72 : decode cX4_comes 72 = .ok (.astore 5, 2) := by decide +kernel
theorem dX4_comes_74 : decode cX4_comes 74 = .ok (.iload_n 2, 1) := by decide +kernel
theorem dX4_comes_75 : decode cX4_comes 75 = .ok (.iload_n 3, 1) := by decide +kernel
theorem dX4_comes_76 : decode cX4_comes 76 = .ok (.if_icmp .ge 7, 3) := by decide +kernel
theorem dX4_comes_79 : decode cX4_comes 79 = .ok (.iconst 0, 1) := by decide +kernel
theorem dX4_comes_80 : decode cX4_comes 80 = .ok (.goto 9, 3) := by decide +kernel
theorem dX4_comes_83 : decode cX4_comes 83 = .ok (.aload 5, 2) := by decide +kernel
theorem dX4_comes_85 : decode cX4_comes 85 = .ok (.iload_n 2, 1) := by decide +kernel
theorem dX4_comes_86 : decode cX4_comes 86 = .ok (.invokevirtual 104, 3) := by decide +kernel
theorem dX4_comes_89 : decode cX4_comes 89 = .ok (.istore 6, 2) := by decide +kernel
theorem dX4_comes_91 : decode cX4_comes 91 = .ok (.iload 6, 2) := by decide +kernel
theorem dX4_comes_93 : decode cX4_comes 93 = .ok (.aload 5, 2) := by decide +kernel
theorem dX4_comes_95 : decode cX4_comes 95 = .ok (.invokevirtual 94, 3) := by decide +kernel
theorem dX4_comes_98 : decode cX4_comes 98 = .ok (.aload 5, 2) := by decide +kernel
theorem dX4_comes_100 : decode cX4_comes 100 = .ok (.iload_n 3, 1) := by decide +kernel
theorem dX4_comes_101 : decode cX4_comes 101 = .ok (.invokevirtual 130, 3) := by decide +kernel
theorem dX4_comes_104 : decode cX4_comes 104 = .ok (.isub, 1) := by decide +kernel
theorem dX4_comes_105 : decode cX4_comes 105 = .ok (.iload 4, 2) := by decide +kernel
theorem dX4_comes_107 : decode cX4_comes 107 = .ok (.invokestatic 133, 3) := by decide +kernel
theorem dX4_comes_110 : decode cX4_comes 110 = .ok (.lreturn, 1) := by decide +kernel
theorem xiX4_homeAt_X4 : GoodIn wsX4_homeAt wsX40 := goodIn_sub (fun _ h => List.mem_cons_of_mem _ (List.mem_append_left _ (List.mem_append_left _ (List.mem_append_right _ h)))) xgwX4
theorem xiX4_homeAt_X2 : GoodIn wsX4_homeAt wsX20 := goodIn_sub (fun _ h => List.mem_cons_of_mem _ (List.mem_append_left _ (List.mem_append_right _ h))) xgwX2
set_option maxRecDepth 20000 in
theorem ggX4_homeAt_X4_noGoer : GoodIn wsX4_homeAt wsX4_noGoer := (goodIn_ca (goodIn_ca (goodIn_r _ [7, 8, 9, 10, 6, 11, 1, 12, 13, 14, 15] rfl (by decide +kernel)) xiX4_homeAt_X4) xiX4_homeAt_X2)
set_option maxRecDepth 20000 in
theorem gX4_homeAt_X4_noGoer : GoodIn wsX4_homeAt (wsV RX4 137 RX4 yX4_noGoer wsX4_noGoer) := goodIn_app (goodIn_r _ [3, 4, 5, 6] rfl (by decide +kernel)) ggX4_homeAt_X4_noGoer
set_option maxRecDepth 20000 in
theorem ggX4_homeAt_X4_refuse : GoodIn wsX4_homeAt wsX4_refuse := (goodIn_ca (goodIn_r _ [19, 20] rfl (by decide +kernel)) xiX4_homeAt_X4)
set_option maxRecDepth 20000 in
theorem gX4_homeAt_X4_refuse : GoodIn wsX4_homeAt (wsV RX4 47 RX4 yX4_refuse wsX4_refuse) := goodIn_app (goodIn_r _ [16, 17, 18, 6] rfl (by decide +kernel)) ggX4_homeAt_X4_refuse
theorem xiX4_homeAt_X0 : GoodIn wsX4_homeAt wsX00 := goodIn_sub (fun _ h => List.mem_cons_of_mem _ (List.mem_append_right _ h)) xgwX0
set_option maxRecDepth 20000 in
theorem ggX4_homeAt_X4_goerHome : GoodIn wsX4_homeAt wsX4_goerHome := (goodIn_ca (goodIn_ca (goodIn_ca (goodIn_r _ [24, 1, 25, 26, 27, 28, 29, 30, 31, 32, 33, 34, 35, 36, 37, 38, 39, 40, 41, 42, 43, 44, 45, 6, 46, 47, 48, 49, 50, 51, 52, 53, 54, 55, 56, 57, 58] rfl (by decide +kernel)) xiX4_homeAt_X4) xiX4_homeAt_X2) xiX4_homeAt_X0)
set_option maxRecDepth 20000 in
theorem gX4_homeAt_X4_goerHome : GoodIn wsX4_homeAt (wsV RX4 141 RX4 yX4_goerHome wsX4_goerHome) := goodIn_app (goodIn_r _ [21, 22, 23, 6] rfl (by decide +kernel)) ggX4_homeAt_X4_goerHome
theorem dX4_homeAt_0 : decode cX4_homeAt 0 = .ok (.aload_n 0, 1) := by decide +kernel
theorem dX4_homeAt_1 : decode cX4_homeAt 1 = .ok (.iload_n 1, 1) := by decide +kernel
theorem dX4_homeAt_2 : decode cX4_homeAt 2 = .ok (.iload_n 2, 1) := by decide +kernel
theorem dX4_homeAt_3 : decode cX4_homeAt 3 = .ok (.iload_n 3, 1) := by decide +kernel
theorem dX4_homeAt_4 : decode cX4_homeAt 4 = .ok (.iload 4, 2) := by decide +kernel
theorem dX4_homeAt_6 : decode cX4_homeAt 6 = .ok (.bipush 12, 2) := by decide +kernel
theorem dX4_homeAt_8 : decode cX4_homeAt 8 = .ok (.invokevirtual 137, 3) := by decide +kernel
theorem dX4_homeAt_11 : decode cX4_homeAt 11 = .ok (.istore 5, 2) := by decide +kernel
theorem dX4_homeAt_13 : decode cX4_homeAt 13 = .ok (.iload 5, 2) := by decide +kernel
theorem dX4_homeAt_15 : decode cX4_homeAt 15 = .ok (.ifCond .eq 10, 3) := by decide +kernel
theorem dX4_homeAt_18 : decode cX4_homeAt 18 = .ok (.aload_n 0, 1) := by decide +kernel
theorem dX4_homeAt_19 : decode cX4_homeAt 19 = .ok (.iload 5, 2) := by decide +kernel
theorem dX4_homeAt_21 : decode cX4_homeAt 21 = .ok (.invokevirtual 47, 3) := by decide +kernel
theorem dX4_homeAt_24 : decode cX4_homeAt 24 = .ok (.ireturn, 1) := by decide +kernel
theorem dX4_homeAt_25 : decode cX4_homeAt 25 = .ok (.aload_n 0, 1) := by decide +kernel
theorem dX4_homeAt_26 : decode cX4_homeAt 26 = .ok (.aload_n 0, 1) := by decide +kernel
theorem dX4_homeAt_27 : decode cX4_homeAt 27 = .ok (.getfield 10, 3) := by decide +kernel
theorem dX4_homeAt_30 : decode cX4_homeAt 30 = .ok (.getfield 79, 3) := by decide +kernel
theorem dX4_homeAt_33 : decode cX4_homeAt 33 = .ok (.iload_n 1, 1) := by decide +kernel
theorem dX4_homeAt_34 : decode cX4_homeAt 34 = .ok (.aaload, 1) := by decide +kernel
theorem dX4_homeAt_35 : decode cX4_homeAt 35 = .ok (.iload_n 2, 1) := by decide +kernel
theorem dX4_homeAt_36 : decode cX4_homeAt 36 = .ok (.iload_n 3, 1) := by decide +kernel
theorem dX4_homeAt_37 : decode cX4_homeAt 37 = .ok (.iload 4, 2) := by decide +kernel
theorem dX4_homeAt_39 : decode cX4_homeAt 39 = .ok (.invokevirtual 141, 3) := by decide +kernel
theorem dX4_homeAt_42 : decode cX4_homeAt 42 = .ok (.ireturn, 1) := by decide +kernel
theorem xiX4_walked_X2 : GoodIn wsX4_walked wsX20 := goodIn_sub (fun _ h => List.mem_cons_of_mem _ (List.mem_append_right _ h)) xgwX2
set_option maxRecDepth 20000 in
theorem ggX4_walked_X2_walkHome : GoodIn wsX4_walked wsX2_walkHome := (goodIn_ca (goodIn_r _ [6, 7, 8, 9, 10, 11, 5, 12, 13, 14, 15, 16, 17, 18] rfl (by decide +kernel)) xiX4_walked_X2)
set_option maxRecDepth 20000 in
theorem gX4_walked_X2_walkHome : GoodIn wsX4_walked (wsV RX4 73 RX2 yX2_walkHome wsX2_walkHome) := goodIn_app (goodIn_r _ [2, 3, 4, 5] rfl (by decide +kernel)) ggX4_walked_X2_walkHome
theorem dX4_walked_0 : decode cX4_walked 0 = .ok (.aload_n 0, 1) := by decide +kernel
theorem dX4_walked_1 : decode cX4_walked 1 = .ok (.getfield 10, 3) := by decide +kernel
theorem dX4_walked_4 : decode cX4_walked 4 = .ok (.iconst 0, 1) := by decide +kernel
theorem dX4_walked_5 : decode cX4_walked 5 = .ok (.invokevirtual 73, 3) := by decide +kernel
theorem dX4_walked_8 : decode cX4_walked 8 = .ok (.ireturn, 1) := by decide +kernel
theorem xiX4_mean_X4 : GoodIn wsX4_mean wsX40 := goodIn_sub (fun _ h => List.mem_cons_of_mem _ (List.mem_append_left _ (List.mem_append_left _ (List.mem_append_right _ h)))) xgwX4
theorem xiX4_mean_X2 : GoodIn wsX4_mean wsX20 := goodIn_sub (fun _ h => List.mem_cons_of_mem _ (List.mem_append_left _ (List.mem_append_right _ h))) xgwX2
set_option maxRecDepth 20000 in
theorem ggX4_mean_X4_noGoer : GoodIn wsX4_mean wsX4_noGoer := (goodIn_ca (goodIn_ca (goodIn_r _ [7, 8, 9, 10, 6, 11, 1, 12, 13, 14, 15] rfl (by decide +kernel)) xiX4_mean_X4) xiX4_mean_X2)
set_option maxRecDepth 20000 in
theorem gX4_mean_X4_noGoer : GoodIn wsX4_mean (wsV RX4 137 RX4 yX4_noGoer wsX4_noGoer) := goodIn_app (goodIn_r _ [3, 4, 5, 6] rfl (by decide +kernel)) ggX4_mean_X4_noGoer
set_option maxRecDepth 20000 in
theorem ggX4_mean_X4_refuseLong : GoodIn wsX4_mean wsX4_refuseLong := (goodIn_ca (goodIn_r _ [19, 20, 21, 22, 23, 6, 24, 25] rfl (by decide +kernel)) xiX4_mean_X4)
set_option maxRecDepth 20000 in
theorem gX4_mean_X4_refuseLong : GoodIn wsX4_mean (wsV RX4 123 RX4 yX4_refuseLong wsX4_refuseLong) := goodIn_app (goodIn_r _ [16, 17, 18, 6] rfl (by decide +kernel)) ggX4_mean_X4_refuseLong
set_option maxRecDepth 20000 in
theorem ggX4_mean_X4_noPart : GoodIn wsX4_mean wsX4_noPart := goodIn_r _ [28] rfl (by decide +kernel)
set_option maxRecDepth 20000 in
theorem gX4_mean_X4_noPart : GoodIn wsX4_mean (va_wsS RX4 127 yX4_noPart wsX4_noPart) := goodIn_app (goodIn_r _ [26, 27, 6] rfl (by decide +kernel)) ggX4_mean_X4_noPart
theorem xiX4_mean_X0 : GoodIn wsX4_mean wsX00 := goodIn_sub (fun _ h => List.mem_cons_of_mem _ (List.mem_append_right _ h)) xgwX0
set_option maxRecDepth 20000 in
theorem ggX4_mean_X4_homeSum : GoodIn wsX4_mean wsX4_homeSum := (goodIn_ca (goodIn_ca (goodIn_ca (goodIn_r _ [32, 33, 34, 35, 36, 37, 38, 39, 40, 41, 42, 6, 43, 1, 44, 45, 46, 47, 48, 49, 50, 51, 52, 53, 54, 55, 56, 57, 58, 59, 60, 61, 62, 63, 64, 65, 66, 67, 68, 69, 70, 71, 72, 73, 74, 75, 76] rfl (by decide +kernel)) xiX4_mean_X0) xiX4_mean_X4) xiX4_mean_X2)
set_option maxRecDepth 20000 in
theorem gX4_mean_X4_homeSum : GoodIn wsX4_mean (wsV RX4 145 RX4 yX4_homeSum wsX4_homeSum) := goodIn_app (goodIn_r _ [29, 30, 31, 6] rfl (by decide +kernel)) ggX4_mean_X4_homeSum
set_option maxRecDepth 20000 in
theorem ggX4_mean_X0_total : GoodIn wsX4_mean wsX0_total := (goodIn_ca (goodIn_r _ [80, 38, 81, 82, 83, 36, 84, 39] rfl (by decide +kernel)) xiX4_mean_X0)
set_option maxRecDepth 20000 in
theorem gX4_mean_X0_total : GoodIn wsX4_mean (wsV RX4 94 RX0 yX0_total wsX0_total) := goodIn_app (goodIn_r _ [77, 78, 79, 36] rfl (by decide +kernel)) ggX4_mean_X0_total
set_option maxRecDepth 20000 in
theorem ggX4_mean_X4_fraction : GoodIn wsX4_mean wsX4_fraction := goodIn_r _ [87] rfl (by decide +kernel)
set_option maxRecDepth 20000 in
theorem gX4_mean_X4_fraction : GoodIn wsX4_mean (va_wsS RX4 133 yX4_fraction wsX4_fraction) := goodIn_app (goodIn_r _ [85, 86, 6] rfl (by decide +kernel)) ggX4_mean_X4_fraction
theorem dX4_mean_0 : decode cX4_mean 0 = .ok (.aload_n 0, 1) := by decide +kernel
theorem dX4_mean_1 : decode cX4_mean 1 = .ok (.iload_n 1, 1) := by decide +kernel
theorem dX4_mean_2 : decode cX4_mean 2 = .ok (.iload_n 2, 1) := by decide +kernel
theorem dX4_mean_3 : decode cX4_mean 3 = .ok (.iload_n 3, 1) := by decide +kernel
theorem dX4_mean_4 : decode cX4_mean 4 = .ok (.iconst 0, 1) := by decide +kernel
theorem dX4_mean_5 : decode cX4_mean 5 = .ok (.iconst 0, 1) := by decide +kernel
theorem dX4_mean_6 : decode cX4_mean 6 = .ok (.invokevirtual 137, 3) := by decide +kernel
theorem dX4_mean_9 : decode cX4_mean 9 = .ok (.istore 5, 2) := by decide +kernel
theorem dX4_mean_11 : decode cX4_mean 11 = .ok (.iload 5, 2) := by decide +kernel
theorem dX4_mean_13 : decode cX4_mean 13 = .ok (.ifCond .eq 10, 3) := by decide +kernel
theorem dX4_mean_16 : decode cX4_mean 16 = .ok (.aload_n 0, 1) := by decide +kernel
theorem dX4_mean_17 : decode cX4_mean 17 = .ok (.iload 5, 2) := by decide +kernel
theorem dX4_mean_19 : decode cX4_mean 19 = .ok (.invokevirtual 123, 3) := by decide +kernel
theorem dX4_mean_22 : decode cX4_mean 22 = .ok (.lreturn, 1) := by decide +kernel
theorem dX4_mean_23 : decode cX4_mean 23 = .ok (.iload 4, 2) := by decide +kernel
theorem dX4_mean_25 : decode cX4_mean 25 = .ok (.invokestatic 127, 3) := by decide +kernel
theorem dX4_mean_28 : decode cX4_mean 28 = .ok (.ifCond .eq 10, 3) := by decide +kernel
theorem dX4_mean_31 : decode cX4_mean 31 = .ok (.aload_n 0, 1) := by decide +kernel
theorem dX4_mean_32 : decode cX4_mean 32 = .ok (.bipush (-2), 2) := by decide +kernel
theorem dX4_mean_34 : decode cX4_mean 34 = .ok (.invokevirtual 123, 3) := by decide +kernel
theorem dX4_mean_37 : decode cX4_mean 37 = .ok (.lreturn, 1) := by decide +kernel
theorem dX4_mean_38 : decode cX4_mean 38 = .ok (.aload_n 0, 1) := by decide +kernel
theorem dX4_mean_39 : decode cX4_mean 39 = .ok (.getfield 10, 3) := by decide +kernel
theorem dX4_mean_42 : decode cX4_mean 42 = .ok (.getfield 79, 3) := by decide +kernel
theorem dX4_mean_45 : decode cX4_mean 45 = .ok (.iload_n 1, 1) := by decide +kernel
theorem dX4_mean_46 : decode cX4_mean 46 = .ok (.aaload, 1) := by decide +kernel
theorem dX4_mean_47 : decode cX4_mean 47 = .ok (.astore 6, 2) := by decide +kernel
theorem dX4_mean_49 : decode cX4_mean 49 = .ok (.aload_n 0, 1) := by decide +kernel
theorem dX4_mean_50 : decode cX4_mean 50 = .ok (.aload 6, 2) := by decide +kernel
theorem dX4_mean_52 : decode cX4_mean 52 = .ok (.iload_n 2, 1) := by decide +kernel
theorem dX4_mean_53 : decode cX4_mean 53 = .ok (.iload_n 3, 1) := by decide +kernel
theorem dX4_mean_54 : decode cX4_mean 54 = .ok (.invokevirtual 145, 3) := by decide +kernel
theorem dX4_mean_57 : decode cX4_mean 57 = .ok (.aload 6, 2) := by decide +kernel
theorem dX4_mean_59 : decode cX4_mean 59 = .ok (.invokevirtual 94, 3) := by decide +kernel
theorem dX4_mean_62 : decode cX4_mean 62 = .ok (.iload 4, 2) := by decide +kernel
theorem dX4_mean_64 : decode cX4_mean 64 = .ok (.invokestatic 133, 3) := by decide +kernel
theorem dX4_mean_67 : decode cX4_mean 67 = .ok (.lreturn, 1) := by decide +kernel
theorem xiX4_sooner_X4 : GoodIn wsX4_sooner wsX40 := goodIn_sub (fun _ h => List.mem_cons_of_mem _ (List.mem_append_left _ (List.mem_append_left _ (List.mem_append_right _ h)))) xgwX4
theorem xiX4_sooner_X2 : GoodIn wsX4_sooner wsX20 := goodIn_sub (fun _ h => List.mem_cons_of_mem _ (List.mem_append_left _ (List.mem_append_right _ h))) xgwX2
set_option maxRecDepth 20000 in
theorem ggX4_sooner_X4_noGoer : GoodIn wsX4_sooner wsX4_noGoer := (goodIn_ca (goodIn_ca (goodIn_r _ [7, 8, 9, 10, 6, 11, 1, 12, 13, 14, 15] rfl (by decide +kernel)) xiX4_sooner_X4) xiX4_sooner_X2)
set_option maxRecDepth 20000 in
theorem gX4_sooner_X4_noGoer : GoodIn wsX4_sooner (wsV RX4 137 RX4 yX4_noGoer wsX4_noGoer) := goodIn_app (goodIn_r _ [3, 4, 5, 6] rfl (by decide +kernel)) ggX4_sooner_X4_noGoer
set_option maxRecDepth 20000 in
theorem ggX4_sooner_X4_refuseLong : GoodIn wsX4_sooner wsX4_refuseLong := (goodIn_ca (goodIn_r _ [19, 20, 21, 22, 23, 6, 24, 25] rfl (by decide +kernel)) xiX4_sooner_X4)
set_option maxRecDepth 20000 in
theorem gX4_sooner_X4_refuseLong : GoodIn wsX4_sooner (wsV RX4 123 RX4 yX4_refuseLong wsX4_refuseLong) := goodIn_app (goodIn_r _ [16, 17, 18, 6] rfl (by decide +kernel)) ggX4_sooner_X4_refuseLong
set_option maxRecDepth 20000 in
theorem ggX4_sooner_X4_noPart : GoodIn wsX4_sooner wsX4_noPart := goodIn_r _ [28] rfl (by decide +kernel)
set_option maxRecDepth 20000 in
theorem gX4_sooner_X4_noPart : GoodIn wsX4_sooner (va_wsS RX4 127 yX4_noPart wsX4_noPart) := goodIn_app (goodIn_r _ [26, 27, 6] rfl (by decide +kernel)) ggX4_sooner_X4_noPart
theorem xiX4_sooner_X0 : GoodIn wsX4_sooner wsX00 := goodIn_sub (fun _ h => List.mem_cons_of_mem _ (List.mem_append_right _ h)) xgwX0
set_option maxRecDepth 20000 in
theorem ggX4_sooner_X4_goerHome : GoodIn wsX4_sooner wsX4_goerHome := (goodIn_ca (goodIn_ca (goodIn_ca (goodIn_r _ [32, 1, 33, 34, 35, 36, 37, 38, 39, 40, 41, 42, 43, 44, 45, 46, 47, 48, 49, 50, 51, 52, 53, 6, 54, 55, 56, 57, 58, 59, 60, 61, 62, 63, 64, 65, 66] rfl (by decide +kernel)) xiX4_sooner_X4) xiX4_sooner_X2) xiX4_sooner_X0)
set_option maxRecDepth 20000 in
theorem gX4_sooner_X4_goerHome : GoodIn wsX4_sooner (wsV RX4 141 RX4 yX4_goerHome wsX4_goerHome) := goodIn_app (goodIn_r _ [29, 30, 31, 6] rfl (by decide +kernel)) ggX4_sooner_X4_goerHome
set_option maxRecDepth 20000 in
theorem ggX4_sooner_X0_weight : GoodIn wsX4_sooner wsX0_weight := (goodIn_ca (goodIn_r _ [70, 71, 72] rfl (by decide +kernel)) xiX4_sooner_X0)
set_option maxRecDepth 20000 in
theorem gX4_sooner_X0_weight : GoodIn wsX4_sooner (wsV RX4 104 RX0 yX0_weight wsX0_weight) := goodIn_app (goodIn_r _ [67, 68, 69, 59] rfl (by decide +kernel)) ggX4_sooner_X0_weight
set_option maxRecDepth 20000 in
theorem ggX4_sooner_X0_total : GoodIn wsX4_sooner wsX0_total := (goodIn_ca (goodIn_r _ [76, 71, 77, 78, 79, 59, 80, 72] rfl (by decide +kernel)) xiX4_sooner_X0)
set_option maxRecDepth 20000 in
theorem gX4_sooner_X0_total : GoodIn wsX4_sooner (wsV RX4 94 RX0 yX0_total wsX0_total) := goodIn_app (goodIn_r _ [73, 74, 75, 59] rfl (by decide +kernel)) ggX4_sooner_X0_total
set_option maxRecDepth 20000 in
theorem ggX4_sooner_X4_fraction : GoodIn wsX4_sooner wsX4_fraction := goodIn_r _ [83] rfl (by decide +kernel)
set_option maxRecDepth 20000 in
theorem gX4_sooner_X4_fraction : GoodIn wsX4_sooner (va_wsS RX4 133 yX4_fraction wsX4_fraction) := goodIn_app (goodIn_r _ [81, 82, 6] rfl (by decide +kernel)) ggX4_sooner_X4_fraction
theorem dX4_sooner_0 : decode cX4_sooner 0 = .ok (.aload_n 0, 1) := by decide +kernel
theorem dX4_sooner_1 : decode cX4_sooner 1 = .ok (.iload_n 1, 1) := by decide +kernel
theorem dX4_sooner_2 : decode cX4_sooner 2 = .ok (.iload_n 2, 1) := by decide +kernel
theorem dX4_sooner_3 : decode cX4_sooner 3 = .ok (.iload_n 3, 1) := by decide +kernel
theorem dX4_sooner_4 : decode cX4_sooner 4 = .ok (.iload 4, 2) := by decide +kernel
theorem dX4_sooner_6 : decode cX4_sooner 6 = .ok (.sipush 999, 3) := by decide +kernel
theorem dX4_sooner_9 : decode cX4_sooner 9 = .ok (.invokevirtual 137, 3) := by decide +kernel
theorem dX4_sooner_12 : decode cX4_sooner 12 = .ok (.istore 6, 2) := by decide +kernel
theorem dX4_sooner_14 : decode cX4_sooner 14 = .ok (.iload 6, 2) := by decide +kernel
theorem dX4_sooner_16 : decode cX4_sooner 16 = .ok (.ifCond .eq 10, 3) := by decide +kernel
theorem dX4_sooner_19 : decode cX4_sooner 19 = .ok (.aload_n 0, 1) := by decide +kernel
theorem dX4_sooner_20 : decode cX4_sooner 20 = .ok (.iload 6, 2) := by decide +kernel
theorem dX4_sooner_22 : decode cX4_sooner 22 = .ok (.invokevirtual 123, 3) := by decide +kernel
theorem dX4_sooner_25 : decode cX4_sooner 25 = .ok (.lreturn, 1) := by decide +kernel
theorem dX4_sooner_26 : decode cX4_sooner 26 = .ok (.iload 5, 2) := by decide +kernel
theorem dX4_sooner_28 : decode cX4_sooner 28 = .ok (.invokestatic 127, 3) := by decide +kernel
theorem dX4_sooner_31 : decode cX4_sooner 31 = .ok (.ifCond .eq 10, 3) := by decide +kernel
theorem dX4_sooner_34 : decode cX4_sooner 34 = .ok (.aload_n 0, 1) := by decide +kernel
theorem dX4_sooner_35 : decode cX4_sooner 35 = .ok (.bipush (-2), 2) := by decide +kernel
theorem dX4_sooner_37 : decode cX4_sooner 37 = .ok (.invokevirtual 123, 3) := by decide +kernel
theorem dX4_sooner_40 : decode cX4_sooner 40 = .ok (.lreturn, 1) := by decide +kernel
theorem dX4_sooner_41 : decode cX4_sooner 41 = .ok (.aload_n 0, 1) := by decide +kernel
theorem dX4_sooner_42 : decode cX4_sooner 42 = .ok (.getfield 10, 3) := by decide +kernel
theorem dX4_sooner_45 : decode cX4_sooner 45 = .ok (.getfield 79, 3) := by decide +kernel
theorem dX4_sooner_48 : decode cX4_sooner 48 = .ok (.iload_n 1, 1) := by decide +kernel
theorem dX4_sooner_49 : decode cX4_sooner 49 = .ok (.aaload, 1) := by decide +kernel
theorem dX4_sooner_50 : decode cX4_sooner 50 = .ok (.astore 7, 2) := by decide +kernel
theorem dX4_sooner_52 : decode cX4_sooner 52 = .ok (.iconst 0, 1) := by decide +kernel
theorem dX4_sooner_53 : decode cX4_sooner 53 = .ok (.istore 8, 2) := by decide +kernel
theorem dX4_sooner_55 : decode cX4_sooner 55 = .ok (.iconst 0, 1) := by decide +kernel
theorem dX4_sooner_56 : decode cX4_sooner 56 = .ok (.istore 9, 2) := by decide +kernel
theorem dX4_sooner_58 : decode cX4_sooner 58 = .ok (.iload 9, 2) := by decide +kernel
theorem dX4_sooner_60 : decode cX4_sooner 60 = .ok (.bipush 12, 2) := by decide +kernel
theorem dX4_sooner_62 : decode cX4_sooner 62 = .ok (.if_icmp .gt 36, 3) := by decide +kernel
theorem dX4_sooner_65 : decode cX4_sooner 65 = .ok (.aload_n 0, 1) := by decide +kernel
theorem dX4_sooner_66 : decode cX4_sooner 66 = .ok (.aload 7, 2) := by decide +kernel
theorem dX4_sooner_68 : decode cX4_sooner 68 = .ok (.iload_n 2, 1) := by decide +kernel
theorem dX4_sooner_69 : decode cX4_sooner 69 = .ok (.iload_n 3, 1) := by decide +kernel
theorem dX4_sooner_70 : decode cX4_sooner 70 = .ok (.iload 9, 2) := by decide +kernel
theorem dX4_sooner_72 : decode cX4_sooner 72 = .ok (.invokevirtual 141, 3) := by decide +kernel
theorem dX4_sooner_75 : decode cX4_sooner 75 = .ok (.iload 4, 2) := by decide +kernel
theorem dX4_sooner_77 : decode cX4_sooner 77 = .ok (.if_icmp .gt 15, 3) := by decide +kernel
theorem dX4_sooner_80 : decode cX4_sooner 80 = .ok (.iload 8, 2) := by decide +kernel
theorem dX4_sooner_82 : decode cX4_sooner 82 = .ok (.aload 7, 2) := by decide +kernel
theorem dX4_sooner_84 : decode cX4_sooner 84 = .ok (.iload 9, 2) := by decide +kernel
theorem dX4_sooner_86 : decode cX4_sooner 86 = .ok (.invokevirtual 104, 3) := by decide +kernel
theorem dX4_sooner_89 : decode cX4_sooner 89 = .ok (.iadd, 1) := by decide +kernel
theorem dX4_sooner_90 : decode cX4_sooner 90 = .ok (.istore 8, 2) := by decide +kernel
theorem dX4_sooner_92 : decode cX4_sooner 92 = .ok (.iinc 9 1, 3) := by decide +kernel
theorem dX4_sooner_95 : decode cX4_sooner 95 = .ok (.goto (-37), 3) := by decide +kernel
theorem dX4_sooner_98 : decode cX4_sooner 98 = .ok (.iload 8, 2) := by decide +kernel
theorem dX4_sooner_100 : decode cX4_sooner 100 = .ok (.aload 7, 2) := by decide +kernel
theorem dX4_sooner_102 : decode cX4_sooner 102 = .ok (.invokevirtual 94, 3) := by decide +kernel
theorem dX4_sooner_105 : decode cX4_sooner 105 = .ok (.iload 5, 2) := by decide +kernel
theorem dX4_sooner_107 : decode cX4_sooner 107 = .ok (.invokestatic 133, 3) := by decide +kernel
theorem dX4_sooner_110 : decode cX4_sooner 110 = .ok (.lreturn, 1) := by decide +kernel
theorem xiX4_best_X4 : GoodIn wsX4_best wsX40 := goodIn_sub (fun _ h => List.mem_cons_of_mem _ (List.mem_append_left _ (List.mem_append_left _ (List.mem_append_left _ (List.mem_append_right _ h))))) xgwX4
theorem xiX4_best_X2 : GoodIn wsX4_best wsX20 := goodIn_sub (fun _ h => List.mem_cons_of_mem _ (List.mem_append_left _ (List.mem_append_left _ (List.mem_append_right _ h)))) xgwX2
set_option maxRecDepth 20000 in
theorem ggX4_best_X4_noPlace : GoodIn wsX4_best wsX4_noPlace := (goodIn_ca (goodIn_ca (goodIn_r _ [5, 6, 7, 8, 4, 9, 10, 11, 12, 13, 14, 15, 16] rfl (by decide +kernel)) xiX4_best_X4) xiX4_best_X2)
set_option maxRecDepth 20000 in
theorem gX4_best_X4_noPlace : GoodIn wsX4_best (wsV RX4 149 RX4 yX4_noPlace wsX4_noPlace) := goodIn_app (goodIn_r _ [1, 2, 3, 4] rfl (by decide +kernel)) ggX4_best_X4_noPlace
set_option maxRecDepth 20000 in
theorem ggX4_best_X4_refuse : GoodIn wsX4_best wsX4_refuse := (goodIn_ca (goodIn_r _ [20, 21] rfl (by decide +kernel)) xiX4_best_X4)
set_option maxRecDepth 20000 in
theorem gX4_best_X4_refuse : GoodIn wsX4_best (wsV RX4 47 RX4 yX4_refuse wsX4_refuse) := goodIn_app (goodIn_r _ [17, 18, 19, 4] rfl (by decide +kernel)) ggX4_best_X4_refuse
theorem xiX4_best_X1 : GoodIn wsX4_best wsX10 := goodIn_sub (fun _ h => List.mem_cons_of_mem _ (List.mem_append_left _ (List.mem_append_right _ h))) xgwX1
theorem xiX4_best_X0 : GoodIn wsX4_best wsX00 := goodIn_sub (fun _ h => List.mem_cons_of_mem _ (List.mem_append_right _ h)) xgwX0
set_option maxRecDepth 20000 in
theorem ggX4_best_X4_planOf : GoodIn wsX4_best wsX4_planOf := (goodIn_ca (goodIn_ca (goodIn_ca (goodIn_ca (goodIn_r _ [25, 26, 27, 10, 28, 29, 30, 31, 32, 33, 34, 35, 36, 37, 38, 39, 40, 41, 42, 43, 44, 45, 46, 47, 48, 49, 50, 51, 52, 53, 54, 55, 56, 57, 58, 59, 60, 61, 62, 63, 64, 65, 66, 67, 68, 69, 70, 71, 72, 73, 74, 75, 76, 77, 78, 79, 80, 81, 82, 83, 84, 85, 86, 87, 88, 89, 90, 91, 92, 93, 94, 95, 96, 97, 98, 99, 100, 101, 102, 103, 104, 105, 106, 107, 108, 109, 110, 111, 112, 113, 114, 115, 116, 117, 118] rfl (by decide +kernel)) xiX4_best_X4) xiX4_best_X2) xiX4_best_X1) xiX4_best_X0)
set_option maxRecDepth 20000 in
theorem gX4_best_X4_planOf : GoodIn wsX4_best (wsV RX4 153 RX4 yX4_planOf wsX4_planOf) := goodIn_app (goodIn_r _ [22, 23, 24, 4] rfl (by decide +kernel)) ggX4_best_X4_planOf
set_option maxRecDepth 20000 in
theorem ggX4_best_X1_choice : GoodIn wsX4_best wsX1_choice := (goodIn_ca (goodIn_r _ [122, 34, 123, 124, 125, 32, 126, 41, 93, 94, 95, 96, 36, 97, 98, 99, 100, 101, 102, 103, 115, 116, 117, 118, 37, 39, 111, 112, 113, 114, 42, 104, 105, 106] rfl (by decide +kernel)) xiX4_best_X1)
set_option maxRecDepth 20000 in
theorem gX4_best_X1_choice : GoodIn wsX4_best (wsV RX4 157 RX1 yX1_choice wsX1_choice) := goodIn_app (goodIn_r _ [119, 120, 121, 32] rfl (by decide +kernel)) ggX4_best_X1_choice
theorem dX4_best_0 : decode cX4_best 0 = .ok (.aload_n 0, 1) := by decide +kernel
theorem dX4_best_1 : decode cX4_best 1 = .ok (.iload_n 1, 1) := by decide +kernel
theorem dX4_best_2 : decode cX4_best 2 = .ok (.iload_n 2, 1) := by decide +kernel
theorem dX4_best_3 : decode cX4_best 3 = .ok (.iload_n 3, 1) := by decide +kernel
theorem dX4_best_4 : decode cX4_best 4 = .ok (.bipush 60, 2) := by decide +kernel
theorem dX4_best_6 : decode cX4_best 6 = .ok (.invokevirtual 149, 3) := by decide +kernel
theorem dX4_best_9 : decode cX4_best 9 = .ok (.istore 4, 2) := by decide +kernel
theorem dX4_best_11 : decode cX4_best 11 = .ok (.iload 4, 2) := by decide +kernel
theorem dX4_best_13 : decode cX4_best 13 = .ok (.ifCond .eq 10, 3) := by decide +kernel
theorem dX4_best_16 : decode cX4_best 16 = .ok (.aload_n 0, 1) := by decide +kernel
theorem dX4_best_17 : decode cX4_best 17 = .ok (.iload 4, 2) := by decide +kernel
theorem dX4_best_19 : decode cX4_best 19 = .ok (.invokevirtual 47, 3) := by decide +kernel
theorem dX4_best_22 : decode cX4_best 22 = .ok (.ireturn, 1) := by decide +kernel
theorem dX4_best_23 : decode cX4_best 23 = .ok (.aload_n 0, 1) := by decide +kernel
theorem dX4_best_24 : decode cX4_best 24 = .ok (.iload_n 1, 1) := by decide +kernel
theorem dX4_best_25 : decode cX4_best 25 = .ok (.invokevirtual 153, 3) := by decide +kernel
theorem dX4_best_28 : decode cX4_best 28 = .ok (.iload_n 2, 1) := by decide +kernel
theorem dX4_best_29 : decode cX4_best 29 = .ok (.iload_n 3, 1) := by decide +kernel
theorem dX4_best_30 : decode cX4_best 30 = .ok (.invokevirtual 157, 3) := by decide +kernel
theorem dX4_best_33 : decode cX4_best 33 = .ok (.ireturn, 1) := by decide +kernel
theorem xiX4_bestMean_X4 : GoodIn wsX4_bestMean wsX40 := goodIn_sub (fun _ h => List.mem_cons_of_mem _ (List.mem_append_left _ (List.mem_append_left _ (List.mem_append_left _ (List.mem_append_right _ h))))) xgwX4
theorem xiX4_bestMean_X2 : GoodIn wsX4_bestMean wsX20 := goodIn_sub (fun _ h => List.mem_cons_of_mem _ (List.mem_append_left _ (List.mem_append_left _ (List.mem_append_right _ h)))) xgwX2
set_option maxRecDepth 20000 in
theorem ggX4_bestMean_X4_noPlace : GoodIn wsX4_bestMean wsX4_noPlace := (goodIn_ca (goodIn_ca (goodIn_r _ [5, 6, 7, 8, 4, 9, 10, 11, 12, 13, 14, 15, 16] rfl (by decide +kernel)) xiX4_bestMean_X4) xiX4_bestMean_X2)
set_option maxRecDepth 20000 in
theorem gX4_bestMean_X4_noPlace : GoodIn wsX4_bestMean (wsV RX4 149 RX4 yX4_noPlace wsX4_noPlace) := goodIn_app (goodIn_r _ [1, 2, 3, 4] rfl (by decide +kernel)) ggX4_bestMean_X4_noPlace
set_option maxRecDepth 20000 in
theorem ggX4_bestMean_X4_refuseLong : GoodIn wsX4_bestMean wsX4_refuseLong := (goodIn_ca (goodIn_r _ [20, 21, 22, 23, 24, 4, 25, 26] rfl (by decide +kernel)) xiX4_bestMean_X4)
set_option maxRecDepth 20000 in
theorem gX4_bestMean_X4_refuseLong : GoodIn wsX4_bestMean (wsV RX4 123 RX4 yX4_refuseLong wsX4_refuseLong) := goodIn_app (goodIn_r _ [17, 18, 19, 4] rfl (by decide +kernel)) ggX4_bestMean_X4_refuseLong
set_option maxRecDepth 20000 in
theorem ggX4_bestMean_X4_noPart : GoodIn wsX4_bestMean wsX4_noPart := goodIn_r _ [29] rfl (by decide +kernel)
set_option maxRecDepth 20000 in
theorem gX4_bestMean_X4_noPart : GoodIn wsX4_bestMean (va_wsS RX4 127 yX4_noPart wsX4_noPart) := goodIn_app (goodIn_r _ [27, 28, 4] rfl (by decide +kernel)) ggX4_bestMean_X4_noPart
theorem xiX4_bestMean_X1 : GoodIn wsX4_bestMean wsX10 := goodIn_sub (fun _ h => List.mem_cons_of_mem _ (List.mem_append_left _ (List.mem_append_right _ h))) xgwX1
theorem xiX4_bestMean_X0 : GoodIn wsX4_bestMean wsX00 := goodIn_sub (fun _ h => List.mem_cons_of_mem _ (List.mem_append_right _ h)) xgwX0
set_option maxRecDepth 20000 in
theorem ggX4_bestMean_X4_planOf : GoodIn wsX4_bestMean wsX4_planOf := (goodIn_ca (goodIn_ca (goodIn_ca (goodIn_ca (goodIn_r _ [33, 34, 35, 10, 36, 37, 38, 39, 40, 41, 42, 43, 44, 45, 46, 47, 48, 49, 50, 51, 52, 53, 54, 55, 56, 57, 58, 59, 60, 61, 62, 63, 64, 65, 66, 67, 68, 69, 70, 71, 72, 73, 74, 75, 76, 77, 78, 79, 80, 81, 82, 83, 84, 85, 86, 87, 88, 89, 90, 91, 92, 93, 94, 95, 96, 97, 98, 99, 100, 101, 102, 103, 104, 105, 106, 107, 108, 109, 110, 111, 112, 113, 114, 115, 116, 117, 118, 119, 120, 121, 122, 123, 124, 125, 126] rfl (by decide +kernel)) xiX4_bestMean_X4) xiX4_bestMean_X2) xiX4_bestMean_X1) xiX4_bestMean_X0)
set_option maxRecDepth 20000 in
theorem gX4_bestMean_X4_planOf : GoodIn wsX4_bestMean (wsV RX4 153 RX4 yX4_planOf wsX4_planOf) := goodIn_app (goodIn_r _ [30, 31, 32, 4] rfl (by decide +kernel)) ggX4_bestMean_X4_planOf
set_option maxRecDepth 20000 in
theorem ggX4_bestMean_X1_leastAt : GoodIn wsX4_bestMean wsX1_leastAt := (goodIn_ca (goodIn_r _ [130, 101, 102, 103, 40, 104, 44, 105, 106, 107, 108, 109, 110, 111, 119, 120, 121, 122, 42, 49, 47, 50, 112, 113, 114] rfl (by decide +kernel)) xiX4_bestMean_X1)
set_option maxRecDepth 20000 in
theorem gX4_bestMean_X1_leastAt : GoodIn wsX4_bestMean (wsV RX4 161 RX1 yX1_leastAt wsX1_leastAt) := goodIn_app (goodIn_r _ [127, 128, 129, 40] rfl (by decide +kernel)) ggX4_bestMean_X1_leastAt
set_option maxRecDepth 20000 in
theorem ggX4_bestMean_X1_weightAt : GoodIn wsX4_bestMean wsX1_weightAt := (goodIn_ca (goodIn_r _ [134, 49, 101, 102, 103, 40, 104, 44, 105, 106, 107, 108, 109, 110, 111] rfl (by decide +kernel)) xiX4_bestMean_X1)
set_option maxRecDepth 20000 in
theorem gX4_bestMean_X1_weightAt : GoodIn wsX4_bestMean (wsV RX4 164 RX1 yX1_weightAt wsX1_weightAt) := goodIn_app (goodIn_r _ [131, 132, 133, 40] rfl (by decide +kernel)) ggX4_bestMean_X1_weightAt
set_option maxRecDepth 20000 in
theorem ggX4_bestMean_X4_fraction : GoodIn wsX4_bestMean wsX4_fraction := goodIn_r _ [137] rfl (by decide +kernel)
set_option maxRecDepth 20000 in
theorem gX4_bestMean_X4_fraction : GoodIn wsX4_bestMean (va_wsS RX4 133 yX4_fraction wsX4_fraction) := goodIn_app (goodIn_r _ [135, 136, 4] rfl (by decide +kernel)) ggX4_bestMean_X4_fraction
theorem dX4_bestMean_0 : decode cX4_bestMean 0 = .ok (.aload_n 0, 1) := by decide +kernel
theorem dX4_bestMean_1 : decode cX4_bestMean 1 = .ok (.iload_n 1, 1) := by decide +kernel
theorem dX4_bestMean_2 : decode cX4_bestMean 2 = .ok (.iload_n 2, 1) := by decide +kernel
theorem dX4_bestMean_3 : decode cX4_bestMean 3 = .ok (.iload_n 3, 1) := by decide +kernel
theorem dX4_bestMean_4 : decode cX4_bestMean 4 = .ok (.bipush 60, 2) := by decide +kernel
theorem dX4_bestMean_6 : decode cX4_bestMean 6 = .ok (.invokevirtual 149, 3) := by decide +kernel
theorem dX4_bestMean_9 : decode cX4_bestMean 9 = .ok (.istore 5, 2) := by decide +kernel
theorem dX4_bestMean_11 : decode cX4_bestMean 11 = .ok (.iload 5, 2) := by decide +kernel
theorem dX4_bestMean_13 : decode cX4_bestMean 13 = .ok (.ifCond .eq 10, 3) := by decide +kernel
theorem dX4_bestMean_16 : decode cX4_bestMean 16 = .ok (.aload_n 0, 1) := by decide +kernel
theorem dX4_bestMean_17 : decode cX4_bestMean 17 = .ok (.iload 5, 2) := by decide +kernel
theorem dX4_bestMean_19 : decode cX4_bestMean 19 = .ok (.invokevirtual 123, 3) := by decide +kernel
theorem dX4_bestMean_22 : decode cX4_bestMean 22 = .ok (.lreturn, 1) := by decide +kernel
theorem dX4_bestMean_23 : decode cX4_bestMean 23 = .ok (.iload 4, 2) := by decide +kernel
theorem dX4_bestMean_25 : decode cX4_bestMean 25 = .ok (.invokestatic 127, 3) := by decide +kernel
theorem dX4_bestMean_28 : decode cX4_bestMean 28 = .ok (.ifCond .eq 10, 3) := by decide +kernel
theorem dX4_bestMean_31 : decode cX4_bestMean 31 = .ok (.aload_n 0, 1) := by decide +kernel
theorem dX4_bestMean_32 : decode cX4_bestMean 32 = .ok (.bipush (-2), 2) := by decide +kernel
theorem dX4_bestMean_34 : decode cX4_bestMean 34 = .ok (.invokevirtual 123, 3) := by decide +kernel
theorem dX4_bestMean_37 : decode cX4_bestMean 37 = .ok (.lreturn, 1) := by decide +kernel
theorem dX4_bestMean_38 : decode cX4_bestMean 38 = .ok (.aload_n 0, 1) := by decide +kernel
theorem dX4_bestMean_39 : decode cX4_bestMean 39 = .ok (.iload_n 1, 1) := by decide +kernel
theorem dX4_bestMean_40 : decode cX4_bestMean 40 = .ok (.invokevirtual 153, 3) := by decide +kernel
theorem dX4_bestMean_43 : decode cX4_bestMean 43 = .ok (.astore 6, 2) := by decide +kernel
theorem dX4_bestMean_45 : decode cX4_bestMean 45 = .ok (.aload 6, 2) := by decide +kernel
theorem dX4_bestMean_47 : decode cX4_bestMean 47 = .ok (.iload_n 2, 1) := by decide +kernel
theorem dX4_bestMean_48 : decode cX4_bestMean 48 = .ok (.iload_n 3, 1) := by decide +kernel
theorem dX4_bestMean_49 : decode cX4_bestMean 49 = .ok (.invokevirtual 161, 3) := by decide +kernel
theorem dX4_bestMean_52 : decode cX4_bestMean 52 = .ok (.aload 6, 2) := by decide +kernel
theorem dX4_bestMean_54 : decode cX4_bestMean 54 = .ok (.iload_n 2, 1) := by decide +kernel
theorem dX4_bestMean_55 : decode cX4_bestMean 55 = .ok (.iload_n 3, 1) := by decide +kernel
theorem dX4_bestMean_56 : decode cX4_bestMean 56 = .ok (.invokevirtual 164, 3) := by decide +kernel
theorem dX4_bestMean_59 : decode cX4_bestMean 59 = .ok (.iload 4, 2) := by decide +kernel
theorem dX4_bestMean_61 : decode cX4_bestMean 61 = .ok (.invokestatic 133, 3) := by decide +kernel
theorem dX4_bestMean_64 : decode cX4_bestMean 64 = .ok (.lreturn, 1) := by decide +kernel
theorem xiX4_patience_X4 : GoodIn wsX4_patience wsX40 := goodIn_sub (fun _ h => List.mem_cons_of_mem _ (List.mem_append_left _ (List.mem_append_left _ (List.mem_append_left _ (List.mem_append_right _ h))))) xgwX4
theorem xiX4_patience_X2 : GoodIn wsX4_patience wsX20 := goodIn_sub (fun _ h => List.mem_cons_of_mem _ (List.mem_append_left _ (List.mem_append_left _ (List.mem_append_right _ h)))) xgwX2
set_option maxRecDepth 20000 in
theorem ggX4_patience_X4_noLine : GoodIn wsX4_patience wsX4_noLine := (goodIn_ca (goodIn_ca (goodIn_r _ [5, 6, 7] rfl (by decide +kernel)) xiX4_patience_X4) xiX4_patience_X2)
set_option maxRecDepth 20000 in
theorem gX4_patience_X4_noLine : GoodIn wsX4_patience (wsV RX4 76 RX4 yX4_noLine wsX4_noLine) := goodIn_app (goodIn_r _ [1, 2, 3, 4] rfl (by decide +kernel)) ggX4_patience_X4_noLine
set_option maxRecDepth 20000 in
theorem ggX4_patience_X4_refuse : GoodIn wsX4_patience wsX4_refuse := (goodIn_ca (goodIn_r _ [11, 12] rfl (by decide +kernel)) xiX4_patience_X4)
set_option maxRecDepth 20000 in
theorem gX4_patience_X4_refuse : GoodIn wsX4_patience (wsV RX4 47 RX4 yX4_refuse wsX4_refuse) := goodIn_app (goodIn_r _ [8, 9, 10, 4] rfl (by decide +kernel)) ggX4_patience_X4_refuse
theorem xiX4_patience_X1 : GoodIn wsX4_patience wsX10 := goodIn_sub (fun _ h => List.mem_cons_of_mem _ (List.mem_append_left _ (List.mem_append_right _ h))) xgwX1
theorem xiX4_patience_X0 : GoodIn wsX4_patience wsX00 := goodIn_sub (fun _ h => List.mem_cons_of_mem _ (List.mem_append_right _ h)) xgwX0
set_option maxRecDepth 20000 in
theorem ggX4_patience_X4_planOf : GoodIn wsX4_patience wsX4_planOf := (goodIn_ca (goodIn_ca (goodIn_ca (goodIn_ca (goodIn_r _ [16, 17, 18, 6, 19, 20, 21, 22, 23, 24, 25, 26, 27, 28, 29, 30, 31, 32, 33, 34, 35, 36, 37, 38, 39, 40, 41, 42, 43, 44, 45, 46, 47, 48, 49, 50, 51, 52, 53, 54, 55, 56, 57, 58, 59, 60, 61, 62, 63, 64, 65, 66, 67, 68, 69, 70, 71, 72, 73, 74, 75, 76, 77, 78, 79, 80, 81, 82, 83, 84, 85, 86, 87, 88, 89, 90, 91, 92, 93, 94, 95, 96, 97, 98, 99, 100, 101, 102, 103, 104, 105, 106, 107, 108, 109] rfl (by decide +kernel)) xiX4_patience_X4) xiX4_patience_X2) xiX4_patience_X1) xiX4_patience_X0)
set_option maxRecDepth 20000 in
theorem gX4_patience_X4_planOf : GoodIn wsX4_patience (wsV RX4 153 RX4 yX4_planOf wsX4_planOf) := goodIn_app (goodIn_r _ [13, 14, 15, 4] rfl (by decide +kernel)) ggX4_patience_X4_planOf
set_option maxRecDepth 20000 in
theorem ggX4_patience_X1_choice : GoodIn wsX4_patience wsX1_choice := (goodIn_ca (goodIn_r _ [113, 25, 114, 115, 116, 23, 117, 32, 84, 85, 86, 87, 27, 88, 89, 90, 91, 92, 93, 94, 106, 107, 108, 109, 28, 30, 102, 103, 104, 105, 33, 95, 96, 97] rfl (by decide +kernel)) xiX4_patience_X1)
set_option maxRecDepth 20000 in
theorem gX4_patience_X1_choice : GoodIn wsX4_patience (wsV RX4 157 RX1 yX1_choice wsX1_choice) := goodIn_app (goodIn_r _ [110, 111, 112, 23] rfl (by decide +kernel)) ggX4_patience_X1_choice
theorem dX4_patience_0 : decode cX4_patience 0 = .ok (.aload_n 0, 1) := by decide +kernel
theorem dX4_patience_1 : decode cX4_patience 1 = .ok (.iload_n 1, 1) := by decide +kernel
theorem dX4_patience_2 : decode cX4_patience 2 = .ok (.invokevirtual 76, 3) := by decide +kernel
theorem dX4_patience_5 : decode cX4_patience 5 = .ok (.ifCond .eq 9, 3) := by decide +kernel
theorem dX4_patience_8 : decode cX4_patience 8 = .ok (.aload_n 0, 1) := by decide +kernel
theorem dX4_patience_9 : decode cX4_patience 9 = .ok (.iconst (-1), 1) := by decide +kernel
theorem dX4_patience_10 : decode cX4_patience 10 = .ok (.invokevirtual 47, 3) := by decide +kernel
theorem dX4_patience_13 : decode cX4_patience 13 = .ok (.ireturn, 1) := by decide +kernel
theorem dX4_patience_14 : decode cX4_patience 14 = .ok (.aload_n 0, 1) := by decide +kernel
theorem dX4_patience_15 : decode cX4_patience 15 = .ok (.iload_n 1, 1) := by decide +kernel
theorem dX4_patience_16 : decode cX4_patience 16 = .ok (.invokevirtual 153, 3) := by decide +kernel
theorem dX4_patience_19 : decode cX4_patience 19 = .ok (.astore_n 2, 1) := by decide +kernel
theorem dX4_patience_20 : decode cX4_patience 20 = .ok (.iconst 0, 1) := by decide +kernel
theorem dX4_patience_21 : decode cX4_patience 21 = .ok (.istore_n 3, 1) := by decide +kernel
theorem dX4_patience_22 : decode cX4_patience 22 = .ok (.iload_n 3, 1) := by decide +kernel
theorem dX4_patience_23 : decode cX4_patience 23 = .ok (.bipush 60, 2) := by decide +kernel
theorem dX4_patience_25 : decode cX4_patience 25 = .ok (.if_icmp .ge 35, 3) := by decide +kernel
theorem dX4_patience_28 : decode cX4_patience 28 = .ok (.aload_n 2, 1) := by decide +kernel
theorem dX4_patience_29 : decode cX4_patience 29 = .ok (.iconst 0, 1) := by decide +kernel
theorem dX4_patience_30 : decode cX4_patience 30 = .ok (.iload_n 3, 1) := by decide +kernel
theorem dX4_patience_31 : decode cX4_patience 31 = .ok (.invokevirtual 157, 3) := by decide +kernel
theorem dX4_patience_34 : decode cX4_patience 34 = .ok (.istore 4, 2) := by decide +kernel
theorem dX4_patience_36 : decode cX4_patience 36 = .ok (.iload 4, 2) := by decide +kernel
theorem dX4_patience_38 : decode cX4_patience 38 = .ok (.ifCond .eq 16, 3) := by decide +kernel
theorem dX4_patience_41 : decode cX4_patience 41 = .ok (.iload 4, 2) := by decide +kernel
theorem dX4_patience_43 : decode cX4_patience 43 = .ok (.iconst 1, 1) := by decide +kernel
theorem dX4_patience_44 : decode cX4_patience 44 = .ok (.if_icmp .ne 7, 3) := by decide +kernel
theorem dX4_patience_47 : decode cX4_patience 47 = .ok (.iload_n 3, 1) := by decide +kernel
theorem dX4_patience_48 : decode cX4_patience 48 = .ok (.goto 5, 3) := by decide +kernel
theorem dX4_patience_51 : decode cX4_patience 51 = .ok (.bipush (-9), 2) := by decide +kernel
theorem dX4_patience_53 : decode cX4_patience 53 = .ok (.ireturn, 1) := by decide +kernel
theorem dX4_patience_54 : decode cX4_patience 54 = .ok (.iinc 3 1, 3) := by decide +kernel
theorem dX4_patience_57 : decode cX4_patience 57 = .ok (.goto (-35), 3) := by decide +kernel
theorem dX4_patience_60 : decode cX4_patience 60 = .ok (.bipush (-9), 2) := by decide +kernel
theorem dX4_patience_62 : decode cX4_patience 62 = .ok (.ireturn, 1) := by decide +kernel
theorem xiX4_news_X4 : GoodIn wsX4_news wsX40 := goodIn_sub (fun _ h => List.mem_cons_of_mem _ (List.mem_append_left _ (List.mem_append_left _ (List.mem_append_left _ (List.mem_append_right _ h))))) xgwX4
theorem xiX4_news_X2 : GoodIn wsX4_news wsX20 := goodIn_sub (fun _ h => List.mem_cons_of_mem _ (List.mem_append_left _ (List.mem_append_left _ (List.mem_append_right _ h)))) xgwX2
set_option maxRecDepth 20000 in
theorem ggX4_news_X4_noLine : GoodIn wsX4_news wsX4_noLine := (goodIn_ca (goodIn_ca (goodIn_r _ [7, 1, 8] rfl (by decide +kernel)) xiX4_news_X4) xiX4_news_X2)
set_option maxRecDepth 20000 in
theorem gX4_news_X4_noLine : GoodIn wsX4_news (wsV RX4 76 RX4 yX4_noLine wsX4_noLine) := goodIn_app (goodIn_r _ [3, 4, 5, 6] rfl (by decide +kernel)) ggX4_news_X4_noLine
set_option maxRecDepth 20000 in
theorem ggX4_news_X4_refuseLong : GoodIn wsX4_news wsX4_refuseLong := (goodIn_ca (goodIn_r _ [12, 13, 14, 15, 16, 6, 17, 18] rfl (by decide +kernel)) xiX4_news_X4)
set_option maxRecDepth 20000 in
theorem gX4_news_X4_refuseLong : GoodIn wsX4_news (wsV RX4 123 RX4 yX4_refuseLong wsX4_refuseLong) := goodIn_app (goodIn_r _ [9, 10, 11, 6] rfl (by decide +kernel)) ggX4_news_X4_refuseLong
set_option maxRecDepth 20000 in
theorem ggX4_news_X4_noPart : GoodIn wsX4_news wsX4_noPart := goodIn_r _ [21] rfl (by decide +kernel)
set_option maxRecDepth 20000 in
theorem gX4_news_X4_noPart : GoodIn wsX4_news (va_wsS RX4 127 yX4_noPart wsX4_noPart) := goodIn_app (goodIn_r _ [19, 20, 6] rfl (by decide +kernel)) ggX4_news_X4_noPart
theorem xiX4_news_X1 : GoodIn wsX4_news wsX10 := goodIn_sub (fun _ h => List.mem_cons_of_mem _ (List.mem_append_left _ (List.mem_append_right _ h))) xgwX1
theorem xiX4_news_X0 : GoodIn wsX4_news wsX00 := goodIn_sub (fun _ h => List.mem_cons_of_mem _ (List.mem_append_right _ h)) xgwX0
set_option maxRecDepth 20000 in
theorem ggX4_news_X4_planOf : GoodIn wsX4_news wsX4_planOf := (goodIn_ca (goodIn_ca (goodIn_ca (goodIn_ca (goodIn_r _ [25, 26, 27, 1, 2, 28, 29, 30, 31, 32, 33, 34, 35, 36, 37, 38, 39, 40, 41, 42, 43, 44, 45, 46, 47, 48, 49, 50, 51, 52, 53, 54, 55, 56, 57, 58, 59, 60, 61, 62, 63, 64, 65, 66, 67, 68, 69, 70, 71, 72, 73, 74, 75, 76, 77, 78, 79, 80, 81, 82, 83, 84, 85, 86, 87, 88, 89, 90, 91, 92, 93, 94, 95, 96, 97, 98, 99, 100, 101, 102, 103, 104, 105, 106, 107, 108, 109, 110, 111, 112, 113, 114, 115, 116, 117] rfl (by decide +kernel)) xiX4_news_X4) xiX4_news_X2) xiX4_news_X1) xiX4_news_X0)
set_option maxRecDepth 20000 in
theorem gX4_news_X4_planOf : GoodIn wsX4_news (wsV RX4 153 RX4 yX4_planOf wsX4_planOf) := goodIn_app (goodIn_r _ [22, 23, 24, 6] rfl (by decide +kernel)) ggX4_news_X4_planOf
set_option maxRecDepth 20000 in
theorem ggX4_news_X1_leastAt : GoodIn wsX4_news wsX1_leastAt := (goodIn_ca (goodIn_r _ [121, 92, 93, 94, 31, 95, 35, 96, 97, 98, 99, 100, 101, 102, 110, 111, 112, 113, 33, 40, 38, 41, 103, 104, 105] rfl (by decide +kernel)) xiX4_news_X1)
set_option maxRecDepth 20000 in
theorem gX4_news_X1_leastAt : GoodIn wsX4_news (wsV RX4 161 RX1 yX1_leastAt wsX1_leastAt) := goodIn_app (goodIn_r _ [118, 119, 120, 31] rfl (by decide +kernel)) ggX4_news_X1_leastAt
set_option maxRecDepth 20000 in
theorem ggX4_news_X4_informedSum : GoodIn wsX4_news wsX4_informedSum := (goodIn_ca (goodIn_ca (goodIn_ca (goodIn_r _ [125, 1, 126, 101, 98, 102, 127, 74, 75, 45, 76, 47, 52, 61, 62, 63, 64, 65, 66, 67, 68, 69, 70, 128, 129, 130, 57, 131, 85, 90, 132, 49, 50, 51, 53, 43, 44, 46, 54, 55, 56, 58, 59, 60] rfl (by decide +kernel)) xiX4_news_X4) xiX4_news_X2) xiX4_news_X0)
set_option maxRecDepth 20000 in
theorem gX4_news_X4_informedSum : GoodIn wsX4_news (wsV RX4 167 RX4 yX4_informedSum wsX4_informedSum) := goodIn_app (goodIn_r _ [122, 123, 124, 6] rfl (by decide +kernel)) ggX4_news_X4_informedSum
set_option maxRecDepth 20000 in
theorem ggX4_news_X0_total : GoodIn wsX4_news wsX0_total := (goodIn_ca (goodIn_r _ [84, 85, 86, 87, 88, 57, 89, 90] rfl (by decide +kernel)) xiX4_news_X0)
set_option maxRecDepth 20000 in
theorem gX4_news_X0_total : GoodIn wsX4_news (wsV RX4 94 RX0 yX0_total wsX0_total) := goodIn_app (goodIn_r _ [133, 82, 83, 57] rfl (by decide +kernel)) ggX4_news_X0_total
set_option maxRecDepth 20000 in
theorem ggX4_news_X4_fraction : GoodIn wsX4_news wsX4_fraction := goodIn_r _ [136] rfl (by decide +kernel)
set_option maxRecDepth 20000 in
theorem gX4_news_X4_fraction : GoodIn wsX4_news (va_wsS RX4 133 yX4_fraction wsX4_fraction) := goodIn_app (goodIn_r _ [134, 135, 6] rfl (by decide +kernel)) ggX4_news_X4_fraction
theorem dX4_news_0 : decode cX4_news 0 = .ok (.aload_n 0, 1) := by decide +kernel
theorem dX4_news_1 : decode cX4_news 1 = .ok (.iload_n 1, 1) := by decide +kernel
theorem dX4_news_2 : decode cX4_news 2 = .ok (.invokevirtual 76, 3) := by decide +kernel
theorem dX4_news_5 : decode cX4_news 5 = .ok (.ifCond .eq 9, 3) := by decide +kernel
theorem dX4_news_8 : decode cX4_news 8 = .ok (.aload_n 0, 1) := by decide +kernel
theorem dX4_news_9 : decode cX4_news 9 = .ok (.iconst (-1), 1) := by decide +kernel
theorem dX4_news_10 : decode cX4_news 10 = .ok (.invokevirtual 123, 3) := by decide +kernel
theorem dX4_news_13 : decode cX4_news 13 = .ok (.lreturn, 1) := by decide +kernel
theorem dX4_news_14 : decode cX4_news 14 = .ok (.iload_n 2, 1) := by decide +kernel
theorem dX4_news_15 : decode cX4_news 15 = .ok (.invokestatic 127, 3) := by decide +kernel
theorem dX4_news_18 : decode cX4_news 18 = .ok (.ifCond .eq 10, 3) := by decide +kernel
theorem dX4_news_21 : decode cX4_news 21 = .ok (.aload_n 0, 1) := by decide +kernel
theorem dX4_news_22 : decode cX4_news 22 = .ok (.bipush (-2), 2) := by decide +kernel
theorem dX4_news_24 : decode cX4_news 24 = .ok (.invokevirtual 123, 3) := by decide +kernel
theorem dX4_news_27 : decode cX4_news 27 = .ok (.lreturn, 1) := by decide +kernel
theorem dX4_news_28 : decode cX4_news 28 = .ok (.aload_n 0, 1) := by decide +kernel
theorem dX4_news_29 : decode cX4_news 29 = .ok (.getfield 10, 3) := by decide +kernel
theorem dX4_news_32 : decode cX4_news 32 = .ok (.getfield 79, 3) := by decide +kernel
theorem dX4_news_35 : decode cX4_news 35 = .ok (.iload_n 1, 1) := by decide +kernel
theorem dX4_news_36 : decode cX4_news 36 = .ok (.aaload, 1) := by decide +kernel
theorem dX4_news_37 : decode cX4_news 37 = .ok (.astore_n 3, 1) := by decide +kernel
theorem dX4_news_38 : decode cX4_news 38 = .ok (.aload_n 0, 1) := by decide +kernel
theorem dX4_news_39 : decode cX4_news 39 = .ok (.iload_n 1, 1) := by decide +kernel
theorem dX4_news_40 : decode cX4_news 40 = .ok (.invokevirtual 153, 3) := by decide +kernel
theorem dX4_news_43 : decode cX4_news 43 = .ok (.iconst 0, 1) := by decide +kernel
theorem dX4_news_44 : decode cX4_news 44 = .ok (.iconst 0, 1) := by decide +kernel
theorem dX4_news_45 : decode cX4_news 45 = .ok (.invokevirtual 161, 3) := by decide +kernel
theorem dX4_news_48 : decode cX4_news 48 = .ok (.aload_n 0, 1) := by decide +kernel
theorem dX4_news_49 : decode cX4_news 49 = .ok (.aload_n 3, 1) := by decide +kernel
theorem dX4_news_50 : decode cX4_news 50 = .ok (.invokevirtual 167, 3) := by decide +kernel
theorem dX4_news_53 : decode cX4_news 53 = .ok (.isub, 1) := by decide +kernel
theorem dX4_news_54 : decode cX4_news 54 = .ok (.aload_n 3, 1) := by decide +kernel
theorem dX4_news_55 : decode cX4_news 55 = .ok (.invokevirtual 94, 3) := by decide +kernel
theorem dX4_news_58 : decode cX4_news 58 = .ok (.iload_n 2, 1) := by decide +kernel
theorem dX4_news_59 : decode cX4_news 59 = .ok (.invokestatic 133, 3) := by decide +kernel
theorem dX4_news_62 : decode cX4_news 62 = .ok (.lreturn, 1) := by decide +kernel
theorem xiX4_both_X4 : GoodIn wsX4_both wsX40 := goodIn_sub (fun _ h => List.mem_cons_of_mem _ (List.mem_append_left _ (List.mem_append_left _ (List.mem_append_right _ h)))) xgwX4
theorem xiX4_both_X2 : GoodIn wsX4_both wsX20 := goodIn_sub (fun _ h => List.mem_cons_of_mem _ (List.mem_append_left _ (List.mem_append_right _ h))) xgwX2
set_option maxRecDepth 20000 in
theorem ggX4_both_X4_noPair : GoodIn wsX4_both wsX4_noPair := (goodIn_ca (goodIn_ca (goodIn_r _ [5, 6, 7, 8, 4, 9, 10, 11] rfl (by decide +kernel)) xiX4_both_X4) xiX4_both_X2)
set_option maxRecDepth 20000 in
theorem gX4_both_X4_noPair : GoodIn wsX4_both (wsV RX4 171 RX4 yX4_noPair wsX4_noPair) := goodIn_app (goodIn_r _ [1, 2, 3, 4] rfl (by decide +kernel)) ggX4_both_X4_noPair
set_option maxRecDepth 20000 in
theorem ggX4_both_X4_refuseLong : GoodIn wsX4_both wsX4_refuseLong := (goodIn_ca (goodIn_r _ [15, 16, 17, 18, 19, 4, 20, 21] rfl (by decide +kernel)) xiX4_both_X4)
set_option maxRecDepth 20000 in
theorem gX4_both_X4_refuseLong : GoodIn wsX4_both (wsV RX4 123 RX4 yX4_refuseLong wsX4_refuseLong) := goodIn_app (goodIn_r _ [12, 13, 14, 4] rfl (by decide +kernel)) ggX4_both_X4_refuseLong
set_option maxRecDepth 20000 in
theorem ggX4_both_X4_noPart : GoodIn wsX4_both wsX4_noPart := goodIn_r _ [24] rfl (by decide +kernel)
set_option maxRecDepth 20000 in
theorem gX4_both_X4_noPart : GoodIn wsX4_both (va_wsS RX4 127 yX4_noPart wsX4_noPart) := goodIn_app (goodIn_r _ [22, 23, 4] rfl (by decide +kernel)) ggX4_both_X4_noPart
theorem xiX4_both_X0 : GoodIn wsX4_both wsX00 := goodIn_sub (fun _ h => List.mem_cons_of_mem _ (List.mem_append_right _ h)) xgwX0
set_option maxRecDepth 20000 in
theorem ggX4_both_X4_pairMean : GoodIn wsX4_both wsX4_pairMean := (goodIn_ca (goodIn_ca (goodIn_ca (goodIn_r _ [28, 10, 29, 30, 31, 32, 33, 34, 35, 36, 37, 38, 39, 40, 41, 42, 43, 4, 44, 45, 46, 47, 48, 49, 50, 51, 52, 53, 54, 55, 56, 57, 58, 59, 60, 61, 62, 63, 64, 65, 66, 67, 68, 69, 70, 71, 72, 73, 74, 75, 76, 77, 78, 79, 80, 81, 82, 83, 84, 85, 86, 87, 88, 89, 90, 91, 92] rfl (by decide +kernel)) xiX4_both_X4) xiX4_both_X2) xiX4_both_X0)
set_option maxRecDepth 20000 in
theorem gX4_both_X4_pairMean : GoodIn wsX4_both (wsV RX4 174 RX4 yX4_pairMean wsX4_pairMean) := goodIn_app (goodIn_r _ [25, 26, 27, 4] rfl (by decide +kernel)) ggX4_both_X4_pairMean
theorem dX4_both_0 : decode cX4_both 0 = .ok (.aload_n 0, 1) := by decide +kernel
theorem dX4_both_1 : decode cX4_both 1 = .ok (.iload_n 1, 1) := by decide +kernel
theorem dX4_both_2 : decode cX4_both 2 = .ok (.iload_n 2, 1) := by decide +kernel
theorem dX4_both_3 : decode cX4_both 3 = .ok (.invokevirtual 171, 3) := by decide +kernel
theorem dX4_both_6 : decode cX4_both 6 = .ok (.ifCond .eq 9, 3) := by decide +kernel
theorem dX4_both_9 : decode cX4_both 9 = .ok (.aload_n 0, 1) := by decide +kernel
theorem dX4_both_10 : decode cX4_both 10 = .ok (.iconst (-1), 1) := by decide +kernel
theorem dX4_both_11 : decode cX4_both 11 = .ok (.invokevirtual 123, 3) := by decide +kernel
theorem dX4_both_14 : decode cX4_both 14 = .ok (.lreturn, 1) := by decide +kernel
theorem dX4_both_15 : decode cX4_both 15 = .ok (.iload_n 3, 1) := by decide +kernel
theorem dX4_both_16 : decode cX4_both 16 = .ok (.invokestatic 127, 3) := by decide +kernel
theorem dX4_both_19 : decode cX4_both 19 = .ok (.ifCond .eq 10, 3) := by decide +kernel
theorem dX4_both_22 : decode cX4_both 22 = .ok (.aload_n 0, 1) := by decide +kernel
theorem dX4_both_23 : decode cX4_both 23 = .ok (.bipush (-2), 2) := by decide +kernel
theorem dX4_both_25 : decode cX4_both 25 = .ok (.invokevirtual 123, 3) := by decide +kernel
theorem dX4_both_28 : decode cX4_both 28 = .ok (.lreturn, 1) := by decide +kernel
theorem dX4_both_29 : decode cX4_both 29 = .ok (.aload_n 0, 1) := by decide +kernel
theorem dX4_both_30 : decode cX4_both 30 = .ok (.iload_n 1, 1) := by decide +kernel
theorem dX4_both_31 : decode cX4_both 31 = .ok (.iload_n 2, 1) := by decide +kernel
theorem dX4_both_32 : decode cX4_both 32 = .ok (.iconst 0, 1) := by decide +kernel
theorem dX4_both_33 : decode cX4_both 33 = .ok (.iload_n 3, 1) := by decide +kernel
theorem dX4_both_34 : decode cX4_both 34 = .ok (.invokevirtual 174, 3) := by decide +kernel
theorem dX4_both_37 : decode cX4_both 37 = .ok (.lreturn, 1) := by decide +kernel
theorem xiX4_letGo_X4 : GoodIn wsX4_letGo wsX40 := goodIn_sub (fun _ h => List.mem_cons_of_mem _ (List.mem_append_left _ (List.mem_append_left _ (List.mem_append_right _ h)))) xgwX4
theorem xiX4_letGo_X2 : GoodIn wsX4_letGo wsX20 := goodIn_sub (fun _ h => List.mem_cons_of_mem _ (List.mem_append_left _ (List.mem_append_right _ h))) xgwX2
set_option maxRecDepth 20000 in
theorem ggX4_letGo_X4_noPair : GoodIn wsX4_letGo wsX4_noPair := (goodIn_ca (goodIn_ca (goodIn_r _ [5, 6, 7, 8, 4, 9, 10, 11] rfl (by decide +kernel)) xiX4_letGo_X4) xiX4_letGo_X2)
set_option maxRecDepth 20000 in
theorem gX4_letGo_X4_noPair : GoodIn wsX4_letGo (wsV RX4 171 RX4 yX4_noPair wsX4_noPair) := goodIn_app (goodIn_r _ [1, 2, 3, 4] rfl (by decide +kernel)) ggX4_letGo_X4_noPair
set_option maxRecDepth 20000 in
theorem ggX4_letGo_X4_refuse : GoodIn wsX4_letGo wsX4_refuse := (goodIn_ca (goodIn_r _ [15, 16] rfl (by decide +kernel)) xiX4_letGo_X4)
set_option maxRecDepth 20000 in
theorem gX4_letGo_X4_refuse : GoodIn wsX4_letGo (wsV RX4 47 RX4 yX4_refuse wsX4_refuse) := goodIn_app (goodIn_r _ [12, 13, 14, 4] rfl (by decide +kernel)) ggX4_letGo_X4_refuse
theorem xiX4_letGo_X0 : GoodIn wsX4_letGo wsX00 := goodIn_sub (fun _ h => List.mem_cons_of_mem _ (List.mem_append_right _ h)) xgwX0
set_option maxRecDepth 20000 in
theorem ggX4_letGo_X4_pairSum : GoodIn wsX4_letGo wsX4_pairSum := (goodIn_ca (goodIn_ca (goodIn_ca (goodIn_r _ [20, 10, 21, 22, 23, 24, 25, 26, 27, 28, 29, 30, 31, 32, 33, 34, 35, 36, 37, 38, 39, 40, 41, 42, 43, 44, 45, 46, 47, 48, 49, 50, 51, 52, 53, 54, 55, 56, 57, 58, 4, 59, 60, 61, 62, 63, 64, 65, 66, 67, 68, 69] rfl (by decide +kernel)) xiX4_letGo_X4) xiX4_letGo_X2) xiX4_letGo_X0)
set_option maxRecDepth 20000 in
theorem gX4_letGo_X4_pairSum : GoodIn wsX4_letGo (wsV RX4 178 RX4 yX4_pairSum wsX4_pairSum) := goodIn_app (goodIn_r _ [17, 18, 19, 4] rfl (by decide +kernel)) ggX4_letGo_X4_pairSum
theorem dX4_letGo_0 : decode cX4_letGo 0 = .ok (.aload_n 0, 1) := by decide +kernel
theorem dX4_letGo_1 : decode cX4_letGo 1 = .ok (.iload_n 1, 1) := by decide +kernel
theorem dX4_letGo_2 : decode cX4_letGo 2 = .ok (.iload_n 2, 1) := by decide +kernel
theorem dX4_letGo_3 : decode cX4_letGo 3 = .ok (.invokevirtual 171, 3) := by decide +kernel
theorem dX4_letGo_6 : decode cX4_letGo 6 = .ok (.ifCond .eq 9, 3) := by decide +kernel
theorem dX4_letGo_9 : decode cX4_letGo 9 = .ok (.aload_n 0, 1) := by decide +kernel
theorem dX4_letGo_10 : decode cX4_letGo 10 = .ok (.iconst (-1), 1) := by decide +kernel
theorem dX4_letGo_11 : decode cX4_letGo 11 = .ok (.invokevirtual 47, 3) := by decide +kernel
theorem dX4_letGo_14 : decode cX4_letGo 14 = .ok (.ireturn, 1) := by decide +kernel
theorem dX4_letGo_15 : decode cX4_letGo 15 = .ok (.iconst 0, 1) := by decide +kernel
theorem dX4_letGo_16 : decode cX4_letGo 16 = .ok (.istore_n 3, 1) := by decide +kernel
theorem dX4_letGo_17 : decode cX4_letGo 17 = .ok (.aload_n 0, 1) := by decide +kernel
theorem dX4_letGo_18 : decode cX4_letGo 18 = .ok (.iload_n 1, 1) := by decide +kernel
theorem dX4_letGo_19 : decode cX4_letGo 19 = .ok (.iload_n 2, 1) := by decide +kernel
theorem dX4_letGo_20 : decode cX4_letGo 20 = .ok (.iconst 0, 1) := by decide +kernel
theorem dX4_letGo_21 : decode cX4_letGo 21 = .ok (.invokevirtual 178, 3) := by decide +kernel
theorem dX4_letGo_24 : decode cX4_letGo 24 = .ok (.istore 4, 2) := by decide +kernel
theorem dX4_letGo_26 : decode cX4_letGo 26 = .ok (.iconst 1, 1) := by decide +kernel
theorem dX4_letGo_27 : decode cX4_letGo 27 = .ok (.istore 5, 2) := by decide +kernel
theorem dX4_letGo_29 : decode cX4_letGo 29 = .ok (.iload 5, 2) := by decide +kernel
theorem dX4_letGo_31 : decode cX4_letGo 31 = .ok (.bipush 12, 2) := by decide +kernel
theorem dX4_letGo_33 : decode cX4_letGo 33 = .ok (.if_icmp .gt 33, 3) := by decide +kernel
theorem dX4_letGo_36 : decode cX4_letGo 36 = .ok (.aload_n 0, 1) := by decide +kernel
theorem dX4_letGo_37 : decode cX4_letGo 37 = .ok (.iload_n 1, 1) := by decide +kernel
theorem dX4_letGo_38 : decode cX4_letGo 38 = .ok (.iload_n 2, 1) := by decide +kernel
theorem dX4_letGo_39 : decode cX4_letGo 39 = .ok (.iload 5, 2) := by decide +kernel
theorem dX4_letGo_41 : decode cX4_letGo 41 = .ok (.invokevirtual 178, 3) := by decide +kernel
theorem dX4_letGo_44 : decode cX4_letGo 44 = .ok (.istore 6, 2) := by decide +kernel
theorem dX4_letGo_46 : decode cX4_letGo 46 = .ok (.iload 6, 2) := by decide +kernel
theorem dX4_letGo_48 : decode cX4_letGo 48 = .ok (.iload 4, 2) := by decide +kernel
theorem dX4_letGo_50 : decode cX4_letGo 50 = .ok (.if_icmp .ge 10, 3) := by decide +kernel
theorem dX4_letGo_53 : decode cX4_letGo 53 = .ok (.iload 6, 2) := by decide +kernel
theorem dX4_letGo_55 : decode cX4_letGo 55 = .ok (.istore 4, 2) := by decide +kernel
theorem dX4_letGo_57 : decode cX4_letGo 57 = .ok (.iload 5, 2) := by decide +kernel
theorem dX4_letGo_59 : decode cX4_letGo 59 = .ok (.istore_n 3, 1) := by decide +kernel
theorem dX4_letGo_60 : decode cX4_letGo 60 = .ok (.iinc 5 1, 3) := by decide +kernel
theorem dX4_letGo_63 : decode cX4_letGo 63 = .ok (.goto (-34), 3) := by decide +kernel
theorem dX4_letGo_66 : decode cX4_letGo 66 = .ok (.iload_n 3, 1) := by decide +kernel
theorem dX4_letGo_67 : decode cX4_letGo 67 = .ok (.ireturn, 1) := by decide +kernel
theorem xiX4_letMean_X4 : GoodIn wsX4_letMean wsX40 := goodIn_sub (fun _ h => List.mem_cons_of_mem _ (List.mem_append_left _ (List.mem_append_left _ (List.mem_append_right _ h)))) xgwX4
theorem xiX4_letMean_X2 : GoodIn wsX4_letMean wsX20 := goodIn_sub (fun _ h => List.mem_cons_of_mem _ (List.mem_append_left _ (List.mem_append_right _ h))) xgwX2
set_option maxRecDepth 20000 in
theorem ggX4_letMean_X4_noPair : GoodIn wsX4_letMean wsX4_noPair := (goodIn_ca (goodIn_ca (goodIn_r _ [5, 6, 7, 8, 4, 9, 10, 11] rfl (by decide +kernel)) xiX4_letMean_X4) xiX4_letMean_X2)
set_option maxRecDepth 20000 in
theorem gX4_letMean_X4_noPair : GoodIn wsX4_letMean (wsV RX4 171 RX4 yX4_noPair wsX4_noPair) := goodIn_app (goodIn_r _ [1, 2, 3, 4] rfl (by decide +kernel)) ggX4_letMean_X4_noPair
set_option maxRecDepth 20000 in
theorem ggX4_letMean_X4_refuseLong : GoodIn wsX4_letMean wsX4_refuseLong := (goodIn_ca (goodIn_r _ [15, 16, 17, 18, 19, 4, 20, 21] rfl (by decide +kernel)) xiX4_letMean_X4)
set_option maxRecDepth 20000 in
theorem gX4_letMean_X4_refuseLong : GoodIn wsX4_letMean (wsV RX4 123 RX4 yX4_refuseLong wsX4_refuseLong) := goodIn_app (goodIn_r _ [12, 13, 14, 4] rfl (by decide +kernel)) ggX4_letMean_X4_refuseLong
set_option maxRecDepth 20000 in
theorem ggX4_letMean_X4_noPart : GoodIn wsX4_letMean wsX4_noPart := goodIn_r _ [24] rfl (by decide +kernel)
set_option maxRecDepth 20000 in
theorem gX4_letMean_X4_noPart : GoodIn wsX4_letMean (va_wsS RX4 127 yX4_noPart wsX4_noPart) := goodIn_app (goodIn_r _ [22, 23, 4] rfl (by decide +kernel)) ggX4_letMean_X4_noPart
theorem xiX4_letMean_X0 : GoodIn wsX4_letMean wsX00 := goodIn_sub (fun _ h => List.mem_cons_of_mem _ (List.mem_append_right _ h)) xgwX0
set_option maxRecDepth 20000 in
theorem ggX4_letMean_X4_pairMean : GoodIn wsX4_letMean wsX4_pairMean := (goodIn_ca (goodIn_ca (goodIn_ca (goodIn_r _ [28, 10, 29, 30, 31, 32, 33, 34, 35, 36, 37, 38, 39, 40, 41, 42, 43, 4, 44, 45, 46, 47, 48, 49, 50, 51, 52, 53, 54, 55, 56, 57, 58, 59, 60, 61, 62, 63, 64, 65, 66, 67, 68, 69, 70, 71, 72, 73, 74, 75, 76, 77, 78, 79, 80, 81, 82, 83, 84, 85, 86, 87, 88, 89, 90, 91, 92] rfl (by decide +kernel)) xiX4_letMean_X4) xiX4_letMean_X2) xiX4_letMean_X0)
set_option maxRecDepth 20000 in
theorem gX4_letMean_X4_pairMean : GoodIn wsX4_letMean (wsV RX4 174 RX4 yX4_pairMean wsX4_pairMean) := goodIn_app (goodIn_r _ [25, 26, 27, 4] rfl (by decide +kernel)) ggX4_letMean_X4_pairMean
theorem dX4_letMean_0 : decode cX4_letMean 0 = .ok (.aload_n 0, 1) := by decide +kernel
theorem dX4_letMean_1 : decode cX4_letMean 1 = .ok (.iload_n 1, 1) := by decide +kernel
theorem dX4_letMean_2 : decode cX4_letMean 2 = .ok (.iload_n 2, 1) := by decide +kernel
theorem dX4_letMean_3 : decode cX4_letMean 3 = .ok (.invokevirtual 171, 3) := by decide +kernel
theorem dX4_letMean_6 : decode cX4_letMean 6 = .ok (.ifCond .eq 9, 3) := by decide +kernel
theorem dX4_letMean_9 : decode cX4_letMean 9 = .ok (.aload_n 0, 1) := by decide +kernel
theorem dX4_letMean_10 : decode cX4_letMean 10 = .ok (.iconst (-1), 1) := by decide +kernel
theorem dX4_letMean_11 : decode cX4_letMean 11 = .ok (.invokevirtual 123, 3) := by decide +kernel
theorem dX4_letMean_14 : decode cX4_letMean 14 = .ok (.lreturn, 1) := by decide +kernel
theorem dX4_letMean_15 : decode cX4_letMean 15 = .ok (.iload_n 3, 1) := by decide +kernel
theorem dX4_letMean_16 : decode cX4_letMean 16 = .ok (.ifCond .ge 10, 3) := by decide +kernel
theorem dX4_letMean_19 : decode cX4_letMean 19 = .ok (.aload_n 0, 1) := by decide +kernel
theorem dX4_letMean_20 : decode cX4_letMean 20 = .ok (.bipush (-4), 2) := by decide +kernel
theorem dX4_letMean_22 : decode cX4_letMean 22 = .ok (.invokevirtual 123, 3) := by decide +kernel
theorem dX4_letMean_25 : decode cX4_letMean 25 = .ok (.lreturn, 1) := by decide +kernel
theorem dX4_letMean_26 : decode cX4_letMean 26 = .ok (.iload_n 3, 1) := by decide +kernel
theorem dX4_letMean_27 : decode cX4_letMean 27 = .ok (.bipush 12, 2) := by decide +kernel
theorem dX4_letMean_29 : decode cX4_letMean 29 = .ok (.if_icmp .le 10, 3) := by decide +kernel
theorem dX4_letMean_32 : decode cX4_letMean 32 = .ok (.aload_n 0, 1) := by decide +kernel
theorem dX4_letMean_33 : decode cX4_letMean 33 = .ok (.bipush (-6), 2) := by decide +kernel
theorem dX4_letMean_35 : decode cX4_letMean 35 = .ok (.invokevirtual 123, 3) := by decide +kernel
theorem dX4_letMean_38 : decode cX4_letMean 38 = .ok (.lreturn, 1) := by decide +kernel
theorem dX4_letMean_39 : decode cX4_letMean 39 = .ok (.iload 4, 2) := by decide +kernel
theorem dX4_letMean_41 : decode cX4_letMean 41 = .ok (.invokestatic 127, 3) := by decide +kernel
theorem dX4_letMean_44 : decode cX4_letMean 44 = .ok (.ifCond .eq 10, 3) := by decide +kernel
theorem dX4_letMean_47 : decode cX4_letMean 47 = .ok (.aload_n 0, 1) := by decide +kernel
theorem dX4_letMean_48 : decode cX4_letMean 48 = .ok (.bipush (-2), 2) := by decide +kernel
theorem dX4_letMean_50 : decode cX4_letMean 50 = .ok (.invokevirtual 123, 3) := by decide +kernel
theorem dX4_letMean_53 : decode cX4_letMean 53 = .ok (.lreturn, 1) := by decide +kernel
theorem dX4_letMean_54 : decode cX4_letMean 54 = .ok (.aload_n 0, 1) := by decide +kernel
theorem dX4_letMean_55 : decode cX4_letMean 55 = .ok (.iload_n 1, 1) := by decide +kernel
theorem dX4_letMean_56 : decode cX4_letMean 56 = .ok (.iload_n 2, 1) := by decide +kernel
theorem dX4_letMean_57 : decode cX4_letMean 57 = .ok (.iload_n 3, 1) := by decide +kernel
theorem dX4_letMean_58 : decode cX4_letMean 58 = .ok (.iload 4, 2) := by decide +kernel
theorem dX4_letMean_60 : decode cX4_letMean 60 = .ok (.invokevirtual 174, 3) := by decide +kernel
theorem dX4_letMean_63 : decode cX4_letMean 63 = .ok (.lreturn, 1) := by decide +kernel
theorem xiX4_back_X4 : GoodIn wsX4_back wsX40 := goodIn_sub (fun _ h => List.mem_cons_of_mem _ (List.mem_append_left _ (List.mem_append_right _ h))) xgwX4
theorem xiX4_back_X2 : GoodIn wsX4_back wsX20 := goodIn_sub (fun _ h => List.mem_cons_of_mem _ (List.mem_append_right _ h)) xgwX2
set_option maxRecDepth 20000 in
theorem ggX4_back_X4_noStop : GoodIn wsX4_back wsX4_noStop := (goodIn_ca (goodIn_ca (goodIn_r _ [11, 1, 12] rfl (by decide +kernel)) xiX4_back_X4) xiX4_back_X2)
set_option maxRecDepth 20000 in
theorem gX4_back_X4_noStop : GoodIn wsX4_back (wsV RX4 66 RX4 yX4_noStop wsX4_noStop) := goodIn_app (goodIn_r _ [7, 8, 9, 10] rfl (by decide +kernel)) ggX4_back_X4_noStop
set_option maxRecDepth 20000 in
theorem ggX4_back_X4_refuse : GoodIn wsX4_back wsX4_refuse := (goodIn_ca (goodIn_r _ [16, 17] rfl (by decide +kernel)) xiX4_back_X4)
set_option maxRecDepth 20000 in
theorem gX4_back_X4_refuse : GoodIn wsX4_back (wsV RX4 47 RX4 yX4_refuse wsX4_refuse) := goodIn_app (goodIn_r _ [13, 14, 15, 10] rfl (by decide +kernel)) ggX4_back_X4_refuse
set_option maxRecDepth 20000 in
theorem ggX4_back_X2_yardsFrom : GoodIn wsX4_back wsX2_yardsFrom := (goodIn_ca (goodIn_r _ [22, 23, 24, 25] rfl (by decide +kernel)) xiX4_back_X2)
set_option maxRecDepth 20000 in
theorem gX4_back_X2_yardsFrom : GoodIn wsX4_back (wsV RX4 185 RX2 yX2_yardsFrom wsX2_yardsFrom) := goodIn_app (goodIn_r _ [18, 19, 20, 21] rfl (by decide +kernel)) ggX4_back_X2_yardsFrom
theorem dX4_back_0 : decode cX4_back 0 = .ok (.aload_n 0, 1) := by decide +kernel
theorem dX4_back_1 : decode cX4_back 1 = .ok (.iload_n 1, 1) := by decide +kernel
theorem dX4_back_2 : decode cX4_back 2 = .ok (.invokevirtual 66, 3) := by decide +kernel
theorem dX4_back_5 : decode cX4_back 5 = .ok (.ifCond .eq 9, 3) := by decide +kernel
theorem dX4_back_8 : decode cX4_back 8 = .ok (.aload_n 0, 1) := by decide +kernel
theorem dX4_back_9 : decode cX4_back 9 = .ok (.iconst (-1), 1) := by decide +kernel
theorem dX4_back_10 : decode cX4_back 10 = .ok (.invokevirtual 47, 3) := by decide +kernel
theorem dX4_back_13 : decode cX4_back 13 = .ok (.ireturn, 1) := by decide +kernel
theorem dX4_back_14 : decode cX4_back 14 = .ok (.iload_n 2, 1) := by decide +kernel
theorem dX4_back_15 : decode cX4_back 15 = .ok (.ifCond .ge 10, 3) := by decide +kernel
theorem dX4_back_18 : decode cX4_back 18 = .ok (.aload_n 0, 1) := by decide +kernel
theorem dX4_back_19 : decode cX4_back 19 = .ok (.bipush (-4), 2) := by decide +kernel
theorem dX4_back_21 : decode cX4_back 21 = .ok (.invokevirtual 47, 3) := by decide +kernel
theorem dX4_back_24 : decode cX4_back 24 = .ok (.ireturn, 1) := by decide +kernel
theorem dX4_back_25 : decode cX4_back 25 = .ok (.iload_n 2, 1) := by decide +kernel
theorem dX4_back_26 : decode cX4_back 26 = .ok (.bipush 30, 2) := by decide +kernel
theorem dX4_back_28 : decode cX4_back 28 = .ok (.if_icmp .le 10, 3) := by decide +kernel
theorem dX4_back_31 : decode cX4_back 31 = .ok (.aload_n 0, 1) := by decide +kernel
theorem dX4_back_32 : decode cX4_back 32 = .ok (.bipush (-6), 2) := by decide +kernel
theorem dX4_back_34 : decode cX4_back 34 = .ok (.invokevirtual 47, 3) := by decide +kernel
theorem dX4_back_37 : decode cX4_back 37 = .ok (.ireturn, 1) := by decide +kernel
theorem dX4_back_38 : decode cX4_back 38 = .ok (.iload_n 2, 1) := by decide +kernel
theorem dX4_back_39 : decode cX4_back 39 = .ok (.aload_n 0, 1) := by decide +kernel
theorem dX4_back_40 : decode cX4_back 40 = .ok (.getfield 10, 3) := by decide +kernel
theorem dX4_back_43 : decode cX4_back 43 = .ok (.getfield 182, 3) := by decide +kernel
theorem dX4_back_46 : decode cX4_back 46 = .ok (.imul, 1) := by decide +kernel
theorem dX4_back_47 : decode cX4_back 47 = .ok (.aload_n 0, 1) := by decide +kernel
theorem dX4_back_48 : decode cX4_back 48 = .ok (.getfield 10, 3) := by decide +kernel
theorem dX4_back_51 : decode cX4_back 51 = .ok (.iload_n 1, 1) := by decide +kernel
theorem dX4_back_52 : decode cX4_back 52 = .ok (.invokevirtual 185, 3) := by decide +kernel
theorem dX4_back_55 : decode cX4_back 55 = .ok (.invokestatic 188, 3) := by decide +kernel
theorem dX4_back_58 : decode cX4_back 58 = .ok (.ireturn, 1) := by decide +kernel
theorem xiX4_gone_X4 : GoodIn wsX4_gone wsX40 := goodIn_sub (fun _ h => List.mem_cons_of_mem _ (List.mem_append_left _ (List.mem_append_left _ (List.mem_append_right _ h)))) xgwX4
theorem xiX4_gone_X2 : GoodIn wsX4_gone wsX20 := goodIn_sub (fun _ h => List.mem_cons_of_mem _ (List.mem_append_left _ (List.mem_append_right _ h))) xgwX2
set_option maxRecDepth 20000 in
theorem ggX4_gone_X4_noPlace : GoodIn wsX4_gone wsX4_noPlace := (goodIn_ca (goodIn_ca (goodIn_r _ [7, 8, 9, 10, 6, 11, 1, 12, 13, 14, 15, 16, 17] rfl (by decide +kernel)) xiX4_gone_X4) xiX4_gone_X2)
set_option maxRecDepth 20000 in
theorem gX4_gone_X4_noPlace : GoodIn wsX4_gone (wsV RX4 149 RX4 yX4_noPlace wsX4_noPlace) := goodIn_app (goodIn_r _ [3, 4, 5, 6] rfl (by decide +kernel)) ggX4_gone_X4_noPlace
set_option maxRecDepth 20000 in
theorem ggX4_gone_X4_refuseLong : GoodIn wsX4_gone wsX4_refuseLong := (goodIn_ca (goodIn_r _ [21, 22, 23, 24, 25, 6, 26, 27] rfl (by decide +kernel)) xiX4_gone_X4)
set_option maxRecDepth 20000 in
theorem gX4_gone_X4_refuseLong : GoodIn wsX4_gone (wsV RX4 123 RX4 yX4_refuseLong wsX4_refuseLong) := goodIn_app (goodIn_r _ [18, 19, 20, 6] rfl (by decide +kernel)) ggX4_gone_X4_refuseLong
set_option maxRecDepth 20000 in
theorem ggX4_gone_X4_noPart : GoodIn wsX4_gone wsX4_noPart := goodIn_r _ [30] rfl (by decide +kernel)
set_option maxRecDepth 20000 in
theorem gX4_gone_X4_noPart : GoodIn wsX4_gone (va_wsS RX4 127 yX4_noPart wsX4_noPart) := goodIn_app (goodIn_r _ [28, 29, 6] rfl (by decide +kernel)) ggX4_gone_X4_noPart
theorem xiX4_gone_X0 : GoodIn wsX4_gone wsX00 := goodIn_sub (fun _ h => List.mem_cons_of_mem _ (List.mem_append_right _ h)) xgwX0
set_option maxRecDepth 20000 in
theorem ggX4_gone_X4_goneUnseen : GoodIn wsX4_gone wsX4_goneUnseen := (goodIn_ca (goodIn_ca (goodIn_ca (goodIn_r _ [34, 1, 35, 36, 37, 38, 39, 40, 41, 42, 43, 44, 45, 46, 47, 48, 6, 49, 50, 51, 52, 53, 54, 55, 56, 57, 58, 59, 60, 61, 62, 63, 64, 65] rfl (by decide +kernel)) xiX4_gone_X4) xiX4_gone_X2) xiX4_gone_X0)
set_option maxRecDepth 20000 in
theorem gX4_gone_X4_goneUnseen : GoodIn wsX4_gone (wsV RX4 193 RX4 yX4_goneUnseen wsX4_goneUnseen) := goodIn_app (goodIn_r _ [31, 32, 33, 6] rfl (by decide +kernel)) ggX4_gone_X4_goneUnseen
theorem dX4_gone_0 : decode cX4_gone 0 = .ok (.aload_n 0, 1) := by decide +kernel
theorem dX4_gone_1 : decode cX4_gone 1 = .ok (.iload_n 1, 1) := by decide +kernel
theorem dX4_gone_2 : decode cX4_gone 2 = .ok (.iload_n 2, 1) := by decide +kernel
theorem dX4_gone_3 : decode cX4_gone 3 = .ok (.iload_n 3, 1) := by decide +kernel
theorem dX4_gone_4 : decode cX4_gone 4 = .ok (.bipush 99, 2) := by decide +kernel
theorem dX4_gone_6 : decode cX4_gone 6 = .ok (.invokevirtual 149, 3) := by decide +kernel
theorem dX4_gone_9 : decode cX4_gone 9 = .ok (.istore 5, 2) := by decide +kernel
theorem dX4_gone_11 : decode cX4_gone 11 = .ok (.iload 5, 2) := by decide +kernel
theorem dX4_gone_13 : decode cX4_gone 13 = .ok (.ifCond .eq 10, 3) := by decide +kernel
theorem dX4_gone_16 : decode cX4_gone 16 = .ok (.aload_n 0, 1) := by decide +kernel
theorem dX4_gone_17 : decode cX4_gone 17 = .ok (.iload 5, 2) := by decide +kernel
theorem dX4_gone_19 : decode cX4_gone 19 = .ok (.invokevirtual 123, 3) := by decide +kernel
theorem dX4_gone_22 : decode cX4_gone 22 = .ok (.lreturn, 1) := by decide +kernel
theorem dX4_gone_23 : decode cX4_gone 23 = .ok (.iload 4, 2) := by decide +kernel
theorem dX4_gone_25 : decode cX4_gone 25 = .ok (.invokestatic 127, 3) := by decide +kernel
theorem dX4_gone_28 : decode cX4_gone 28 = .ok (.ifCond .eq 10, 3) := by decide +kernel
theorem dX4_gone_31 : decode cX4_gone 31 = .ok (.aload_n 0, 1) := by decide +kernel
theorem dX4_gone_32 : decode cX4_gone 32 = .ok (.bipush (-2), 2) := by decide +kernel
theorem dX4_gone_34 : decode cX4_gone 34 = .ok (.invokevirtual 123, 3) := by decide +kernel
theorem dX4_gone_37 : decode cX4_gone 37 = .ok (.lreturn, 1) := by decide +kernel
theorem dX4_gone_38 : decode cX4_gone 38 = .ok (.aload_n 0, 1) := by decide +kernel
theorem dX4_gone_39 : decode cX4_gone 39 = .ok (.aload_n 0, 1) := by decide +kernel
theorem dX4_gone_40 : decode cX4_gone 40 = .ok (.getfield 10, 3) := by decide +kernel
theorem dX4_gone_43 : decode cX4_gone 43 = .ok (.getfield 79, 3) := by decide +kernel
theorem dX4_gone_46 : decode cX4_gone 46 = .ok (.iload_n 1, 1) := by decide +kernel
theorem dX4_gone_47 : decode cX4_gone 47 = .ok (.aaload, 1) := by decide +kernel
theorem dX4_gone_48 : decode cX4_gone 48 = .ok (.iload_n 2, 1) := by decide +kernel
theorem dX4_gone_49 : decode cX4_gone 49 = .ok (.iload_n 3, 1) := by decide +kernel
theorem dX4_gone_50 : decode cX4_gone 50 = .ok (.iload_n 3, 1) := by decide +kernel
theorem dX4_gone_51 : decode cX4_gone 51 = .ok (.iload 4, 2) := by decide +kernel
theorem dX4_gone_53 : decode cX4_gone 53 = .ok (.invokevirtual 193, 3) := by decide +kernel
theorem dX4_gone_56 : decode cX4_gone 56 = .ok (.lreturn, 1) := by decide +kernel
theorem xiX4_stood_X4 : GoodIn wsX4_stood wsX40 := goodIn_sub (fun _ h => List.mem_cons_of_mem _ (List.mem_append_left _ (List.mem_append_left _ (List.mem_append_right _ h)))) xgwX4
theorem xiX4_stood_X2 : GoodIn wsX4_stood wsX20 := goodIn_sub (fun _ h => List.mem_cons_of_mem _ (List.mem_append_left _ (List.mem_append_right _ h))) xgwX2
set_option maxRecDepth 20000 in
theorem ggX4_stood_X4_noLine : GoodIn wsX4_stood wsX4_noLine := (goodIn_ca (goodIn_ca (goodIn_r _ [7, 1, 8] rfl (by decide +kernel)) xiX4_stood_X4) xiX4_stood_X2)
set_option maxRecDepth 20000 in
theorem gX4_stood_X4_noLine : GoodIn wsX4_stood (wsV RX4 76 RX4 yX4_noLine wsX4_noLine) := goodIn_app (goodIn_r _ [3, 4, 5, 6] rfl (by decide +kernel)) ggX4_stood_X4_noLine
set_option maxRecDepth 20000 in
theorem ggX4_stood_X4_noStop : GoodIn wsX4_stood wsX4_noStop := (goodIn_ca (goodIn_ca (goodIn_r _ [12, 1, 13] rfl (by decide +kernel)) xiX4_stood_X4) xiX4_stood_X2)
set_option maxRecDepth 20000 in
theorem gX4_stood_X4_noStop : GoodIn wsX4_stood (wsV RX4 66 RX4 yX4_noStop wsX4_noStop) := goodIn_app (goodIn_r _ [9, 10, 11, 6] rfl (by decide +kernel)) ggX4_stood_X4_noStop
set_option maxRecDepth 20000 in
theorem ggX4_stood_X4_refuseLong : GoodIn wsX4_stood wsX4_refuseLong := (goodIn_ca (goodIn_r _ [17, 18, 19, 20, 21, 6, 22, 23] rfl (by decide +kernel)) xiX4_stood_X4)
set_option maxRecDepth 20000 in
theorem gX4_stood_X4_refuseLong : GoodIn wsX4_stood (wsV RX4 123 RX4 yX4_refuseLong wsX4_refuseLong) := goodIn_app (goodIn_r _ [14, 15, 16, 6] rfl (by decide +kernel)) ggX4_stood_X4_refuseLong
set_option maxRecDepth 20000 in
theorem ggX4_stood_X4_noPart : GoodIn wsX4_stood wsX4_noPart := goodIn_r _ [26] rfl (by decide +kernel)
set_option maxRecDepth 20000 in
theorem gX4_stood_X4_noPart : GoodIn wsX4_stood (va_wsS RX4 127 yX4_noPart wsX4_noPart) := goodIn_app (goodIn_r _ [24, 25, 6] rfl (by decide +kernel)) ggX4_stood_X4_noPart
theorem xiX4_stood_X0 : GoodIn wsX4_stood wsX00 := goodIn_sub (fun _ h => List.mem_cons_of_mem _ (List.mem_append_right _ h)) xgwX0
set_option maxRecDepth 20000 in
theorem ggX4_stood_X4_goneUnseen : GoodIn wsX4_stood wsX4_goneUnseen := (goodIn_ca (goodIn_ca (goodIn_ca (goodIn_r _ [30, 1, 31, 32, 33, 34, 35, 36, 37, 38, 39, 40, 41, 42, 43, 44, 6, 45, 46, 47, 48, 49, 50, 51, 52, 53, 54, 55, 56, 57, 58, 59, 60, 61] rfl (by decide +kernel)) xiX4_stood_X4) xiX4_stood_X2) xiX4_stood_X0)
set_option maxRecDepth 20000 in
theorem gX4_stood_X4_goneUnseen : GoodIn wsX4_stood (wsV RX4 193 RX4 yX4_goneUnseen wsX4_goneUnseen) := goodIn_app (goodIn_r _ [27, 28, 29, 6] rfl (by decide +kernel)) ggX4_stood_X4_goneUnseen
theorem dX4_stood_0 : decode cX4_stood 0 = .ok (.aload_n 0, 1) := by decide +kernel
theorem dX4_stood_1 : decode cX4_stood 1 = .ok (.iload_n 1, 1) := by decide +kernel
theorem dX4_stood_2 : decode cX4_stood 2 = .ok (.invokevirtual 76, 3) := by decide +kernel
theorem dX4_stood_5 : decode cX4_stood 5 = .ok (.ifCond .ne 11, 3) := by decide +kernel
theorem dX4_stood_8 : decode cX4_stood 8 = .ok (.aload_n 0, 1) := by decide +kernel
theorem dX4_stood_9 : decode cX4_stood 9 = .ok (.iload_n 2, 1) := by decide +kernel
theorem dX4_stood_10 : decode cX4_stood 10 = .ok (.invokevirtual 66, 3) := by decide +kernel
theorem dX4_stood_13 : decode cX4_stood 13 = .ok (.ifCond .eq 9, 3) := by decide +kernel
theorem dX4_stood_16 : decode cX4_stood 16 = .ok (.aload_n 0, 1) := by decide +kernel
theorem dX4_stood_17 : decode cX4_stood 17 = .ok (.iconst (-1), 1) := by decide +kernel
theorem dX4_stood_18 : decode cX4_stood 18 = .ok (.invokevirtual 123, 3) := by decide +kernel
theorem dX4_stood_21 : decode cX4_stood 21 = .ok (.lreturn, 1) := by decide +kernel
theorem dX4_stood_22 : decode cX4_stood 22 = .ok (.iload_n 3, 1) := by decide +kernel
theorem dX4_stood_23 : decode cX4_stood 23 = .ok (.ifCond .lt 8, 3) := by decide +kernel
theorem dX4_stood_26 : decode cX4_stood 26 = .ok (.iload 4, 2) := by decide +kernel
theorem dX4_stood_28 : decode cX4_stood 28 = .ok (.ifCond .ge 10, 3) := by decide +kernel
theorem dX4_stood_31 : decode cX4_stood 31 = .ok (.aload_n 0, 1) := by decide +kernel
theorem dX4_stood_32 : decode cX4_stood 32 = .ok (.bipush (-4), 2) := by decide +kernel
theorem dX4_stood_34 : decode cX4_stood 34 = .ok (.invokevirtual 123, 3) := by decide +kernel
theorem dX4_stood_37 : decode cX4_stood 37 = .ok (.lreturn, 1) := by decide +kernel
theorem dX4_stood_38 : decode cX4_stood 38 = .ok (.iload 4, 2) := by decide +kernel
theorem dX4_stood_40 : decode cX4_stood 40 = .ok (.bipush 99, 2) := by decide +kernel
theorem dX4_stood_42 : decode cX4_stood 42 = .ok (.if_icmp .gt 9, 3) := by decide +kernel
theorem dX4_stood_45 : decode cX4_stood 45 = .ok (.iload_n 3, 1) := by decide +kernel
theorem dX4_stood_46 : decode cX4_stood 46 = .ok (.iload 4, 2) := by decide +kernel
theorem dX4_stood_48 : decode cX4_stood 48 = .ok (.if_icmp .le 10, 3) := by decide +kernel
theorem dX4_stood_51 : decode cX4_stood 51 = .ok (.aload_n 0, 1) := by decide +kernel
theorem dX4_stood_52 : decode cX4_stood 52 = .ok (.bipush (-6), 2) := by decide +kernel
theorem dX4_stood_54 : decode cX4_stood 54 = .ok (.invokevirtual 123, 3) := by decide +kernel
theorem dX4_stood_57 : decode cX4_stood 57 = .ok (.lreturn, 1) := by decide +kernel
theorem dX4_stood_58 : decode cX4_stood 58 = .ok (.iload 5, 2) := by decide +kernel
theorem dX4_stood_60 : decode cX4_stood 60 = .ok (.invokestatic 127, 3) := by decide +kernel
theorem dX4_stood_63 : decode cX4_stood 63 = .ok (.ifCond .eq 10, 3) := by decide +kernel
theorem dX4_stood_66 : decode cX4_stood 66 = .ok (.aload_n 0, 1) := by decide +kernel
theorem dX4_stood_67 : decode cX4_stood 67 = .ok (.bipush (-2), 2) := by decide +kernel
theorem dX4_stood_69 : decode cX4_stood 69 = .ok (.invokevirtual 123, 3) := by decide +kernel
theorem dX4_stood_72 : decode cX4_stood 72 = .ok (.lreturn, 1) := by decide +kernel
theorem dX4_stood_73 : decode cX4_stood 73 = .ok (.aload_n 0, 1) := by decide +kernel
theorem dX4_stood_74 : decode cX4_stood 74 = .ok (.aload_n 0, 1) := by decide +kernel
theorem dX4_stood_75 : decode cX4_stood 75 = .ok (.getfield 10, 3) := by decide +kernel
theorem dX4_stood_78 : decode cX4_stood 78 = .ok (.getfield 79, 3) := by decide +kernel
theorem dX4_stood_81 : decode cX4_stood 81 = .ok (.iload_n 1, 1) := by decide +kernel
theorem dX4_stood_82 : decode cX4_stood 82 = .ok (.aaload, 1) := by decide +kernel
theorem dX4_stood_83 : decode cX4_stood 83 = .ok (.iload_n 2, 1) := by decide +kernel
theorem dX4_stood_84 : decode cX4_stood 84 = .ok (.iload_n 3, 1) := by decide +kernel
theorem dX4_stood_85 : decode cX4_stood 85 = .ok (.iload 4, 2) := by decide +kernel
theorem dX4_stood_87 : decode cX4_stood 87 = .ok (.iload 5, 2) := by decide +kernel
theorem dX4_stood_89 : decode cX4_stood 89 = .ok (.invokevirtual 193, 3) := by decide +kernel
theorem dX4_stood_92 : decode cX4_stood 92 = .ok (.lreturn, 1) := by decide +kernel
theorem xiX4_others_X4 : GoodIn wsX4_others wsX40 := goodIn_sub (fun _ h => List.mem_cons_of_mem _ (List.mem_append_right _ h)) xgwX4
set_option maxRecDepth 20000 in
theorem ggX4_others_X4_refuse : GoodIn wsX4_others wsX4_refuse := (goodIn_ca (goodIn_r _ [5, 6] rfl (by decide +kernel)) xiX4_others_X4)
set_option maxRecDepth 20000 in
theorem gX4_others_X4_refuse : GoodIn wsX4_others (wsV RX4 47 RX4 yX4_refuse wsX4_refuse) := goodIn_app (goodIn_r _ [1, 2, 3, 4] rfl (by decide +kernel)) ggX4_others_X4_refuse
set_option maxRecDepth 20000 in
theorem ggX4_others_X4_withHeartAbove : GoodIn wsX4_others wsX4_withHeartAbove := goodIn_r _ [9] rfl (by decide +kernel)
set_option maxRecDepth 20000 in
theorem gX4_others_X4_withHeartAbove : GoodIn wsX4_others (va_wsS RX4 197 yX4_withHeartAbove wsX4_withHeartAbove) := goodIn_app (goodIn_r _ [7, 8, 4] rfl (by decide +kernel)) ggX4_others_X4_withHeartAbove
theorem dX4_others_0 : decode cX4_others 0 = .ok (.iload_n 1, 1) := by decide +kernel
theorem dX4_others_1 : decode cX4_others 1 = .ok (.iconst 1, 1) := by decide +kernel
theorem dX4_others_2 : decode cX4_others 2 = .ok (.if_icmp .lt 16, 3) := by decide +kernel
theorem dX4_others_5 : decode cX4_others 5 = .ok (.iload_n 2, 1) := by decide +kernel
theorem dX4_others_6 : decode cX4_others 6 = .ok (.ifCond .lt 12, 3) := by decide +kernel
theorem dX4_others_9 : decode cX4_others 9 = .ok (.iload_n 3, 1) := by decide +kernel
theorem dX4_others_10 : decode cX4_others 10 = .ok (.ifCond .lt 8, 3) := by decide +kernel
theorem dX4_others_13 : decode cX4_others 13 = .ok (.iload 4, 2) := by decide +kernel
theorem dX4_others_15 : decode cX4_others 15 = .ok (.ifCond .ge 10, 3) := by decide +kernel
theorem dX4_others_18 : decode cX4_others 18 = .ok (.aload_n 0, 1) := by decide +kernel
theorem dX4_others_19 : decode cX4_others 19 = .ok (.bipush (-4), 2) := by decide +kernel
theorem dX4_others_21 : decode cX4_others 21 = .ok (.invokevirtual 47, 3) := by decide +kernel
theorem dX4_others_24 : decode cX4_others 24 = .ok (.ireturn, 1) := by decide +kernel
theorem dX4_others_25 : decode cX4_others 25 = .ok (.iload_n 1, 1) := by decide +kernel
theorem dX4_others_26 : decode cX4_others 26 = .ok (.bipush 9, 2) := by decide +kernel
theorem dX4_others_28 : decode cX4_others 28 = .ok (.if_icmp .gt 22, 3) := by decide +kernel
theorem dX4_others_31 : decode cX4_others 31 = .ok (.iload_n 2, 1) := by decide +kernel
theorem dX4_others_32 : decode cX4_others 32 = .ok (.bipush 30, 2) := by decide +kernel
theorem dX4_others_34 : decode cX4_others 34 = .ok (.if_icmp .gt 16, 3) := by decide +kernel
theorem dX4_others_37 : decode cX4_others 37 = .ok (.iload_n 3, 1) := by decide +kernel
theorem dX4_others_38 : decode cX4_others 38 = .ok (.bipush 30, 2) := by decide +kernel
theorem dX4_others_40 : decode cX4_others 40 = .ok (.if_icmp .gt 10, 3) := by decide +kernel
theorem dX4_others_43 : decode cX4_others 43 = .ok (.iload 4, 2) := by decide +kernel
theorem dX4_others_45 : decode cX4_others 45 = .ok (.bipush 60, 2) := by decide +kernel
theorem dX4_others_47 : decode cX4_others 47 = .ok (.if_icmp .le 10, 3) := by decide +kernel
theorem dX4_others_50 : decode cX4_others 50 = .ok (.aload_n 0, 1) := by decide +kernel
theorem dX4_others_51 : decode cX4_others 51 = .ok (.bipush (-6), 2) := by decide +kernel
theorem dX4_others_53 : decode cX4_others 53 = .ok (.invokevirtual 47, 3) := by decide +kernel
theorem dX4_others_56 : decode cX4_others 56 = .ok (.ireturn, 1) := by decide +kernel
theorem dX4_others_57 : decode cX4_others 57 = .ok (.iload_n 1, 1) := by decide +kernel
theorem dX4_others_58 : decode cX4_others 58 = .ok (.istore 5, 2) := by decide +kernel
theorem dX4_others_60 : decode cX4_others 60 = .ok (.iconst 0, 1) := by decide +kernel
theorem dX4_others_61 : decode cX4_others 61 = .ok (.istore 6, 2) := by decide +kernel
theorem dX4_others_63 : decode cX4_others 63 = .ok (.iconst 0, 1) := by decide +kernel
theorem dX4_others_64 : decode cX4_others 64 = .ok (.istore 7, 2) := by decide +kernel
theorem dX4_others_66 : decode cX4_others 66 = .ok (.iconst 1, 1) := by decide +kernel
theorem dX4_others_67 : decode cX4_others 67 = .ok (.istore 8, 2) := by decide +kernel
theorem dX4_others_69 : decode cX4_others 69 = .ok (.iload 8, 2) := by decide +kernel
theorem dX4_others_71 : decode cX4_others 71 = .ok (.iload 4, 2) := by decide +kernel
theorem dX4_others_73 : decode cX4_others 73 = .ok (.if_icmp .gt 39, 3) := by decide +kernel
theorem dX4_others_76 : decode cX4_others 76 = .ok (.iload 6, 2) := by decide +kernel
theorem dX4_others_78 : decode cX4_others 78 = .ok (.iconst 1, 1) := by decide +kernel
theorem dX4_others_79 : decode cX4_others 79 = .ok (.iload 7, 2) := by decide +kernel
theorem dX4_others_81 : decode cX4_others 81 = .ok (.iadd, 1) := by decide +kernel
theorem dX4_others_82 : decode cX4_others 82 = .ok (.iadd, 1) := by decide +kernel
theorem dX4_others_83 : decode cX4_others 83 = .ok (.istore 6, 2) := by decide +kernel
theorem dX4_others_85 : decode cX4_others 85 = .ok (.iload 6, 2) := by decide +kernel
theorem dX4_others_87 : decode cX4_others 87 = .ok (.iload_n 1, 1) := by decide +kernel
theorem dX4_others_88 : decode cX4_others 88 = .ok (.iload_n 2, 1) := by decide +kernel
theorem dX4_others_89 : decode cX4_others 89 = .ok (.iload_n 3, 1) := by decide +kernel
theorem dX4_others_90 : decode cX4_others 90 = .ok (.invokestatic 197, 3) := by decide +kernel
theorem dX4_others_93 : decode cX4_others 93 = .ok (.istore 9, 2) := by decide +kernel
theorem dX4_others_95 : decode cX4_others 95 = .ok (.iload 5, 2) := by decide +kernel
theorem dX4_others_97 : decode cX4_others 97 = .ok (.iload 9, 2) := by decide +kernel
theorem dX4_others_99 : decode cX4_others 99 = .ok (.isub, 1) := by decide +kernel
theorem dX4_others_100 : decode cX4_others 100 = .ok (.istore 7, 2) := by decide +kernel
theorem dX4_others_102 : decode cX4_others 102 = .ok (.iload 9, 2) := by decide +kernel
theorem dX4_others_104 : decode cX4_others 104 = .ok (.istore 5, 2) := by decide +kernel
theorem dX4_others_106 : decode cX4_others 106 = .ok (.iinc 8 1, 3) := by decide +kernel
theorem dX4_others_109 : decode cX4_others 109 = .ok (.goto (-40), 3) := by decide +kernel
theorem dX4_others_112 : decode cX4_others 112 = .ok (.iload 5, 2) := by decide +kernel
theorem dX4_others_114 : decode cX4_others 114 = .ok (.ireturn, 1) := by decide +kernel
theorem xiX4_rules_X4 : GoodIn wsX4_rules wsX40 := goodIn_sub (fun _ h => List.mem_cons_of_mem _ (List.mem_append_left _ (List.mem_append_left _ (List.mem_append_right _ h)))) xgwX4
theorem xiX4_rules_X2 : GoodIn wsX4_rules wsX20 := goodIn_sub (fun _ h => List.mem_cons_of_mem _ (List.mem_append_left _ (List.mem_append_right _ h))) xgwX2
set_option maxRecDepth 20000 in
theorem ggX4_rules_X4_noLine : GoodIn wsX4_rules wsX4_noLine := (goodIn_ca (goodIn_ca (goodIn_r _ [7, 1, 8] rfl (by decide +kernel)) xiX4_rules_X4) xiX4_rules_X2)
set_option maxRecDepth 20000 in
theorem gX4_rules_X4_noLine : GoodIn wsX4_rules (wsV RX4 76 RX4 yX4_noLine wsX4_noLine) := goodIn_app (goodIn_r _ [3, 4, 5, 6] rfl (by decide +kernel)) ggX4_rules_X4_noLine
set_option maxRecDepth 20000 in
theorem ggX4_rules_X4_refuse : GoodIn wsX4_rules wsX4_refuse := (goodIn_ca (goodIn_r _ [12, 13] rfl (by decide +kernel)) xiX4_rules_X4)
set_option maxRecDepth 20000 in
theorem gX4_rules_X4_refuse : GoodIn wsX4_rules (wsV RX4 47 RX4 yX4_refuse wsX4_refuse) := goodIn_app (goodIn_r _ [9, 10, 11, 6] rfl (by decide +kernel)) ggX4_rules_X4_refuse
theorem xiX4_rules_X0 : GoodIn wsX4_rules wsX00 := goodIn_sub (fun _ h => List.mem_cons_of_mem _ (List.mem_append_right _ h)) xgwX0
set_option maxRecDepth 20000 in
theorem ggX4_rules_X4_homeSum : GoodIn wsX4_rules wsX4_homeSum := (goodIn_ca (goodIn_ca (goodIn_ca (goodIn_r _ [17, 18, 19, 20, 21, 22, 23, 24, 25, 26, 27, 6, 28, 1, 29, 30, 31, 32, 33, 34, 35, 36, 37, 38, 39, 40, 41, 42, 43, 44, 45, 46, 47, 48, 49, 50, 51, 52, 53, 54, 55, 56, 57, 58, 59, 60, 61] rfl (by decide +kernel)) xiX4_rules_X0) xiX4_rules_X4) xiX4_rules_X2)
set_option maxRecDepth 20000 in
theorem gX4_rules_X4_homeSum : GoodIn wsX4_rules (wsV RX4 145 RX4 yX4_homeSum wsX4_homeSum) := goodIn_app (goodIn_r _ [14, 15, 16, 6] rfl (by decide +kernel)) ggX4_rules_X4_homeSum
theorem dX4_rules_0 : decode cX4_rules 0 = .ok (.aload_n 0, 1) := by decide +kernel
theorem dX4_rules_1 : decode cX4_rules 1 = .ok (.iload_n 1, 1) := by decide +kernel
theorem dX4_rules_2 : decode cX4_rules 2 = .ok (.invokevirtual 76, 3) := by decide +kernel
theorem dX4_rules_5 : decode cX4_rules 5 = .ok (.ifCond .eq 9, 3) := by decide +kernel
theorem dX4_rules_8 : decode cX4_rules 8 = .ok (.aload_n 0, 1) := by decide +kernel
theorem dX4_rules_9 : decode cX4_rules 9 = .ok (.iconst (-1), 1) := by decide +kernel
theorem dX4_rules_10 : decode cX4_rules 10 = .ok (.invokevirtual 47, 3) := by decide +kernel
theorem dX4_rules_13 : decode cX4_rules 13 = .ok (.ireturn, 1) := by decide +kernel
theorem dX4_rules_14 : decode cX4_rules 14 = .ok (.aload_n 0, 1) := by decide +kernel
theorem dX4_rules_15 : decode cX4_rules 15 = .ok (.getfield 10, 3) := by decide +kernel
theorem dX4_rules_18 : decode cX4_rules 18 = .ok (.getfield 79, 3) := by decide +kernel
theorem dX4_rules_21 : decode cX4_rules 21 = .ok (.iload_n 1, 1) := by decide +kernel
theorem dX4_rules_22 : decode cX4_rules 22 = .ok (.aaload, 1) := by decide +kernel
theorem dX4_rules_23 : decode cX4_rules 23 = .ok (.astore_n 2, 1) := by decide +kernel
theorem dX4_rules_24 : decode cX4_rules 24 = .ok (.iconst 0, 1) := by decide +kernel
theorem dX4_rules_25 : decode cX4_rules 25 = .ok (.istore_n 3, 1) := by decide +kernel
theorem dX4_rules_26 : decode cX4_rules 26 = .ok (.aload_n 0, 1) := by decide +kernel
theorem dX4_rules_27 : decode cX4_rules 27 = .ok (.aload_n 2, 1) := by decide +kernel
theorem dX4_rules_28 : decode cX4_rules 28 = .ok (.iconst 3, 1) := by decide +kernel
theorem dX4_rules_29 : decode cX4_rules 29 = .ok (.iconst 0, 1) := by decide +kernel
theorem dX4_rules_30 : decode cX4_rules 30 = .ok (.invokevirtual 145, 3) := by decide +kernel
theorem dX4_rules_33 : decode cX4_rules 33 = .ok (.istore 4, 2) := by decide +kernel
theorem dX4_rules_35 : decode cX4_rules 35 = .ok (.iconst 1, 1) := by decide +kernel
theorem dX4_rules_36 : decode cX4_rules 36 = .ok (.istore 5, 2) := by decide +kernel
theorem dX4_rules_38 : decode cX4_rules 38 = .ok (.iload 5, 2) := by decide +kernel
theorem dX4_rules_40 : decode cX4_rules 40 = .ok (.bipush 12, 2) := by decide +kernel
theorem dX4_rules_42 : decode cX4_rules 42 = .ok (.if_icmp .gt 33, 3) := by decide +kernel
theorem dX4_rules_45 : decode cX4_rules 45 = .ok (.aload_n 0, 1) := by decide +kernel
theorem dX4_rules_46 : decode cX4_rules 46 = .ok (.aload_n 2, 1) := by decide +kernel
theorem dX4_rules_47 : decode cX4_rules 47 = .ok (.iconst 3, 1) := by decide +kernel
theorem dX4_rules_48 : decode cX4_rules 48 = .ok (.iload 5, 2) := by decide +kernel
theorem dX4_rules_50 : decode cX4_rules 50 = .ok (.invokevirtual 145, 3) := by decide +kernel
theorem dX4_rules_53 : decode cX4_rules 53 = .ok (.istore 6, 2) := by decide +kernel
theorem dX4_rules_55 : decode cX4_rules 55 = .ok (.iload 6, 2) := by decide +kernel
theorem dX4_rules_57 : decode cX4_rules 57 = .ok (.iload 4, 2) := by decide +kernel
theorem dX4_rules_59 : decode cX4_rules 59 = .ok (.if_icmp .ge 10, 3) := by decide +kernel
theorem dX4_rules_62 : decode cX4_rules 62 = .ok (.iload 6, 2) := by decide +kernel
theorem dX4_rules_64 : decode cX4_rules 64 = .ok (.istore 4, 2) := by decide +kernel
theorem dX4_rules_66 : decode cX4_rules 66 = .ok (.iload 5, 2) := by decide +kernel
theorem dX4_rules_68 : decode cX4_rules 68 = .ok (.istore_n 3, 1) := by decide +kernel
theorem dX4_rules_69 : decode cX4_rules 69 = .ok (.iinc 5 1, 3) := by decide +kernel
theorem dX4_rules_72 : decode cX4_rules 72 = .ok (.goto (-34), 3) := by decide +kernel
theorem dX4_rules_75 : decode cX4_rules 75 = .ok (.iload_n 3, 1) := by decide +kernel
theorem dX4_rules_76 : decode cX4_rules 76 = .ok (.ireturn, 1) := by decide +kernel
theorem xiX4_row_X4 : GoodIn wsX4_row wsX40 := goodIn_sub (fun _ h => List.mem_cons_of_mem _ (List.mem_append_right _ h)) xgwX4
set_option maxRecDepth 20000 in
theorem ggX4_row_X4_refuse : GoodIn wsX4_row wsX4_refuse := (goodIn_ca (goodIn_r _ [7, 8] rfl (by decide +kernel)) xiX4_row_X4)
set_option maxRecDepth 20000 in
theorem gX4_row_X4_refuse : GoodIn wsX4_row (wsV RX4 47 RX4 yX4_refuse wsX4_refuse) := goodIn_app (goodIn_r _ [3, 4, 5, 6] rfl (by decide +kernel)) ggX4_row_X4_refuse
theorem dX4_row_0 : decode cX4_row 0 = .ok (.iload_n 1, 1) := by decide +kernel
theorem dX4_row_1 : decode cX4_row 1 = .ok (.ifCond .ge 10, 3) := by decide +kernel
theorem dX4_row_4 : decode cX4_row 4 = .ok (.aload_n 0, 1) := by decide +kernel
theorem dX4_row_5 : decode cX4_row 5 = .ok (.bipush (-4), 2) := by decide +kernel
theorem dX4_row_7 : decode cX4_row 7 = .ok (.invokevirtual 47, 3) := by decide +kernel
theorem dX4_row_10 : decode cX4_row 10 = .ok (.ireturn, 1) := by decide +kernel
theorem dX4_row_11 : decode cX4_row 11 = .ok (.iload_n 1, 1) := by decide +kernel
theorem dX4_row_12 : decode cX4_row 12 = .ok (.sipush 999, 3) := by decide +kernel
theorem dX4_row_15 : decode cX4_row 15 = .ok (.if_icmp .gt 12, 3) := by decide +kernel
theorem dX4_row_18 : decode cX4_row 18 = .ok (.aload_n 0, 1) := by decide +kernel
theorem dX4_row_19 : decode cX4_row 19 = .ok (.getfield 200, 3) := by decide +kernel
theorem dX4_row_22 : decode cX4_row 22 = .ok (.bipush 12, 2) := by decide +kernel
theorem dX4_row_24 : decode cX4_row 24 = .ok (.if_icmp .lt 10, 3) := by decide +kernel
theorem dX4_row_27 : decode cX4_row 27 = .ok (.aload_n 0, 1) := by decide +kernel
theorem dX4_row_28 : decode cX4_row 28 = .ok (.bipush (-6), 2) := by decide +kernel
theorem dX4_row_30 : decode cX4_row 30 = .ok (.invokevirtual 47, 3) := by decide +kernel
theorem dX4_row_33 : decode cX4_row 33 = .ok (.ireturn, 1) := by decide +kernel
theorem dX4_row_34 : decode cX4_row 34 = .ok (.aload_n 0, 1) := by decide +kernel
theorem dX4_row_35 : decode cX4_row 35 = .ok (.getfield 36, 3) := by decide +kernel
theorem dX4_row_38 : decode cX4_row 38 = .ok (.aload_n 0, 1) := by decide +kernel
theorem dX4_row_39 : decode cX4_row 39 = .ok (.getfield 200, 3) := by decide +kernel
theorem dX4_row_42 : decode cX4_row 42 = .ok (.iload_n 1, 1) := by decide +kernel
theorem dX4_row_43 : decode cX4_row 43 = .ok (.iastore, 1) := by decide +kernel
theorem dX4_row_44 : decode cX4_row 44 = .ok (.aload_n 0, 1) := by decide +kernel
theorem dX4_row_45 : decode cX4_row 45 = .ok (.dup, 1) := by decide +kernel
theorem dX4_row_46 : decode cX4_row 46 = .ok (.getfield 200, 3) := by decide +kernel
theorem dX4_row_49 : decode cX4_row 49 = .ok (.iconst 1, 1) := by decide +kernel
theorem dX4_row_50 : decode cX4_row 50 = .ok (.iadd, 1) := by decide +kernel
theorem dX4_row_51 : decode cX4_row 51 = .ok (.putfield 200, 3) := by decide +kernel
theorem dX4_row_54 : decode cX4_row 54 = .ok (.aload_n 0, 1) := by decide +kernel
theorem dX4_row_55 : decode cX4_row 55 = .ok (.getfield 200, 3) := by decide +kernel
theorem dX4_row_58 : decode cX4_row 58 = .ok (.ireturn, 1) := by decide +kernel
theorem xiX4_judge_X4 : GoodIn wsX4_judge wsX40 := goodIn_sub (fun _ h => List.mem_cons_of_mem _ (List.mem_append_left _ (List.mem_append_right _ h))) xgwX4
theorem xiX4_judge_X2 : GoodIn wsX4_judge wsX20 := goodIn_sub (fun _ h => List.mem_cons_of_mem _ (List.mem_append_right _ h)) xgwX2
set_option maxRecDepth 20000 in
theorem ggX4_judge_X4_noStop : GoodIn wsX4_judge wsX4_noStop := (goodIn_ca (goodIn_ca (goodIn_r _ [9, 3, 10] rfl (by decide +kernel)) xiX4_judge_X4) xiX4_judge_X2)
set_option maxRecDepth 20000 in
theorem gX4_judge_X4_noStop : GoodIn wsX4_judge (wsV RX4 66 RX4 yX4_noStop wsX4_noStop) := goodIn_app (goodIn_r _ [5, 6, 7, 8] rfl (by decide +kernel)) ggX4_judge_X4_noStop
set_option maxRecDepth 20000 in
theorem ggX4_judge_X2_wayFrom : GoodIn wsX4_judge wsX2_wayFrom := (goodIn_ca (goodIn_r _ [15, 16, 17, 18, 14, 19, 20, 21, 22] rfl (by decide +kernel)) xiX4_judge_X2)
set_option maxRecDepth 20000 in
theorem gX4_judge_X2_wayFrom : GoodIn wsX4_judge (wsV RX4 203 RX2 yX2_wayFrom wsX2_wayFrom) := goodIn_app (goodIn_r _ [11, 12, 13, 14] rfl (by decide +kernel)) ggX4_judge_X2_wayFrom
theorem dX4_judge_0 : decode cX4_judge 0 = .ok (.bipush (-9), 2) := by decide +kernel
theorem dX4_judge_2 : decode cX4_judge 2 = .ok (.istore_n 1, 1) := by decide +kernel
theorem dX4_judge_3 : decode cX4_judge 3 = .ok (.iconst 0, 1) := by decide +kernel
theorem dX4_judge_4 : decode cX4_judge 4 = .ok (.istore_n 2, 1) := by decide +kernel
theorem dX4_judge_5 : decode cX4_judge 5 = .ok (.iload_n 2, 1) := by decide +kernel
theorem dX4_judge_6 : decode cX4_judge 6 = .ok (.aload_n 0, 1) := by decide +kernel
theorem dX4_judge_7 : decode cX4_judge 7 = .ok (.getfield 200, 3) := by decide +kernel
theorem dX4_judge_10 : decode cX4_judge 10 = .ok (.if_icmp .ge 64, 3) := by decide +kernel
theorem dX4_judge_13 : decode cX4_judge 13 = .ok (.iload_n 1, 1) := by decide +kernel
theorem dX4_judge_14 : decode cX4_judge 14 = .ok (.bipush (-9), 2) := by decide +kernel
theorem dX4_judge_16 : decode cX4_judge 16 = .ok (.if_icmp .ne 58, 3) := by decide +kernel
theorem dX4_judge_19 : decode cX4_judge 19 = .ok (.iload_n 2, 1) := by decide +kernel
theorem dX4_judge_20 : decode cX4_judge 20 = .ok (.ifCond .le 48, 3) := by decide +kernel
theorem dX4_judge_23 : decode cX4_judge 23 = .ok (.aload_n 0, 1) := by decide +kernel
theorem dX4_judge_24 : decode cX4_judge 24 = .ok (.iload_n 2, 1) := by decide +kernel
theorem dX4_judge_25 : decode cX4_judge 25 = .ok (.invokevirtual 66, 3) := by decide +kernel
theorem dX4_judge_28 : decode cX4_judge 28 = .ok (.ifCond .ne 38, 3) := by decide +kernel
theorem dX4_judge_31 : decode cX4_judge 31 = .ok (.aload_n 0, 1) := by decide +kernel
theorem dX4_judge_32 : decode cX4_judge 32 = .ok (.getfield 36, 3) := by decide +kernel
theorem dX4_judge_35 : decode cX4_judge 35 = .ok (.iload_n 2, 1) := by decide +kernel
theorem dX4_judge_36 : decode cX4_judge 36 = .ok (.iaload, 1) := by decide +kernel
theorem dX4_judge_37 : decode cX4_judge 37 = .ok (.aload_n 0, 1) := by decide +kernel
theorem dX4_judge_38 : decode cX4_judge 38 = .ok (.getfield 36, 3) := by decide +kernel
theorem dX4_judge_41 : decode cX4_judge 41 = .ok (.iload_n 2, 1) := by decide +kernel
theorem dX4_judge_42 : decode cX4_judge 42 = .ok (.iconst 1, 1) := by decide +kernel
theorem dX4_judge_43 : decode cX4_judge 43 = .ok (.isub, 1) := by decide +kernel
theorem dX4_judge_44 : decode cX4_judge 44 = .ok (.iaload, 1) := by decide +kernel
theorem dX4_judge_45 : decode cX4_judge 45 = .ok (.isub, 1) := by decide +kernel
theorem dX4_judge_46 : decode cX4_judge 46 = .ok (.aload_n 0, 1) := by decide +kernel
theorem dX4_judge_47 : decode cX4_judge 47 = .ok (.getfield 10, 3) := by decide +kernel
theorem dX4_judge_50 : decode cX4_judge 50 = .ok (.iload_n 2, 1) := by decide +kernel
theorem dX4_judge_51 : decode cX4_judge 51 = .ok (.iconst 1, 1) := by decide +kernel
theorem dX4_judge_52 : decode cX4_judge 52 = .ok (.isub, 1) := by decide +kernel
theorem dX4_judge_53 : decode cX4_judge 53 = .ok (.aload_n 0, 1) := by decide +kernel
theorem dX4_judge_54 : decode cX4_judge 54 = .ok (.getfield 10, 3) := by decide +kernel
theorem dX4_judge_57 : decode cX4_judge 57 = .ok (.getfield 182, 3) := by decide +kernel
theorem dX4_judge_60 : decode cX4_judge 60 = .ok (.invokevirtual 203, 3) := by decide +kernel
theorem dX4_judge_63 : decode cX4_judge 63 = .ok (.if_icmp .ge 5, 3) := by decide +kernel
theorem dX4_judge_66 : decode cX4_judge 66 = .ok (.iload_n 2, 1) := by decide +kernel
theorem dX4_judge_67 : decode cX4_judge 67 = .ok (.istore_n 1, 1) := by decide +kernel
theorem dX4_judge_68 : decode cX4_judge 68 = .ok (.iinc 2 1, 3) := by decide +kernel
theorem dX4_judge_71 : decode cX4_judge 71 = .ok (.goto (-66), 3) := by decide +kernel
theorem dX4_judge_74 : decode cX4_judge 74 = .ok (.aload_n 0, 1) := by decide +kernel
theorem dX4_judge_75 : decode cX4_judge 75 = .ok (.iconst 0, 1) := by decide +kernel
theorem dX4_judge_76 : decode cX4_judge 76 = .ok (.putfield 200, 3) := by decide +kernel
theorem dX4_judge_79 : decode cX4_judge 79 = .ok (.iload_n 1, 1) := by decide +kernel
theorem dX4_judge_80 : decode cX4_judge 80 = .ok (.ireturn, 1) := by decide +kernel
theorem xiX4_lots_X4 : GoodIn wsX4_lots wsX40 := goodIn_sub (fun _ h => List.mem_cons_of_mem _ (List.mem_append_left _ (List.mem_append_left _ (List.mem_append_right _ h)))) xgwX4
theorem xiX4_lots_X2 : GoodIn wsX4_lots wsX20 := goodIn_sub (fun _ h => List.mem_cons_of_mem _ (List.mem_append_left _ (List.mem_append_right _ h))) xgwX2
set_option maxRecDepth 20000 in
theorem ggX4_lots_X4_noLine : GoodIn wsX4_lots wsX4_noLine := (goodIn_ca (goodIn_ca (goodIn_r _ [14, 1, 15] rfl (by decide +kernel)) xiX4_lots_X4) xiX4_lots_X2)
set_option maxRecDepth 20000 in
theorem gX4_lots_X4_noLine : GoodIn wsX4_lots (wsV RX4 76 RX4 yX4_noLine wsX4_noLine) := goodIn_app (goodIn_r _ [10, 11, 12, 13] rfl (by decide +kernel)) ggX4_lots_X4_noLine
set_option maxRecDepth 20000 in
theorem ggX4_lots_X4_refuse : GoodIn wsX4_lots wsX4_refuse := (goodIn_ca (goodIn_r _ [19, 20] rfl (by decide +kernel)) xiX4_lots_X4)
set_option maxRecDepth 20000 in
theorem gX4_lots_X4_refuse : GoodIn wsX4_lots (wsV RX4 47 RX4 yX4_refuse wsX4_refuse) := goodIn_app (goodIn_r _ [16, 17, 18, 13] rfl (by decide +kernel)) ggX4_lots_X4_refuse
set_option maxRecDepth 20000 in
theorem ggX4_lots_X4_noKind : GoodIn wsX4_lots wsX4_noKind := goodIn_r _ [23] rfl (by decide +kernel)
set_option maxRecDepth 20000 in
theorem gX4_lots_X4_noKind : GoodIn wsX4_lots (va_wsS RX4 206 yX4_noKind wsX4_noKind) := goodIn_app (goodIn_r _ [21, 22, 13] rfl (by decide +kernel)) ggX4_lots_X4_noKind
theorem xiX4_lots_X0 : GoodIn wsX4_lots wsX00 := goodIn_sub (fun _ h => List.mem_cons_of_mem _ (List.mem_append_right _ h)) xgwX0
set_option maxRecDepth 20000 in
theorem ggX4_lots_X0_total : GoodIn wsX4_lots wsX0_total := (goodIn_ca (goodIn_r _ [28, 29, 30, 31, 32, 27, 33, 34] rfl (by decide +kernel)) xiX4_lots_X0)
set_option maxRecDepth 20000 in
theorem gX4_lots_X0_total : GoodIn wsX4_lots (wsV RX4 94 RX0 yX0_total wsX0_total) := goodIn_app (goodIn_r _ [24, 25, 26, 27] rfl (by decide +kernel)) ggX4_lots_X0_total
set_option maxRecDepth 20000 in
theorem ggX4_lots_X0_drawn : GoodIn wsX4_lots wsX0_drawn := (goodIn_ca (goodIn_r _ [38, 34] rfl (by decide +kernel)) xiX4_lots_X0)
set_option maxRecDepth 20000 in
theorem gX4_lots_X0_drawn : GoodIn wsX4_lots (wsV RX4 215 RX0 yX0_drawn wsX0_drawn) := goodIn_app (goodIn_r _ [35, 36, 37, 27] rfl (by decide +kernel)) ggX4_lots_X0_drawn
set_option maxRecDepth 20000 in
theorem ggX4_lots_X4_goerHome : GoodIn wsX4_lots wsX4_goerHome := (goodIn_ca (goodIn_ca (goodIn_ca (goodIn_r _ [42, 1, 43, 44, 45, 46, 47, 48, 49, 50, 51, 52, 53, 54, 55, 56, 57, 58, 59, 60, 61, 62, 63, 13, 64, 65, 66, 67, 68, 27, 69, 70, 71, 72, 73, 74, 75] rfl (by decide +kernel)) xiX4_lots_X4) xiX4_lots_X2) xiX4_lots_X0)
set_option maxRecDepth 20000 in
theorem gX4_lots_X4_goerHome : GoodIn wsX4_lots (wsV RX4 141 RX4 yX4_goerHome wsX4_goerHome) := goodIn_app (goodIn_r _ [39, 40, 41, 13] rfl (by decide +kernel)) ggX4_lots_X4_goerHome
theorem dX4_lots_0 : decode cX4_lots 0 = .ok (.aload_n 0, 1) := by decide +kernel
theorem dX4_lots_1 : decode cX4_lots 1 = .ok (.iload_n 1, 1) := by decide +kernel
theorem dX4_lots_2 : decode cX4_lots 2 = .ok (.invokevirtual 76, 3) := by decide +kernel
theorem dX4_lots_5 : decode cX4_lots 5 = .ok (.ifCond .eq 9, 3) := by decide +kernel
theorem dX4_lots_8 : decode cX4_lots 8 = .ok (.aload_n 0, 1) := by decide +kernel
theorem dX4_lots_9 : decode cX4_lots 9 = .ok (.iconst (-1), 1) := by decide +kernel
theorem dX4_lots_10 : decode cX4_lots 10 = .ok (.invokevirtual 47, 3) := by decide +kernel
theorem dX4_lots_13 : decode cX4_lots 13 = .ok (.ireturn, 1) := by decide +kernel
theorem dX4_lots_14 : decode cX4_lots 14 = .ok (.iload_n 2, 1) := by decide +kernel
theorem dX4_lots_15 : decode cX4_lots 15 = .ok (.invokestatic 206, 3) := by decide +kernel
theorem dX4_lots_18 : decode cX4_lots 18 = .ok (.ifCond .eq 10, 3) := by decide +kernel
theorem dX4_lots_21 : decode cX4_lots 21 = .ok (.aload_n 0, 1) := by decide +kernel
theorem dX4_lots_22 : decode cX4_lots 22 = .ok (.bipush (-2), 2) := by decide +kernel
theorem dX4_lots_24 : decode cX4_lots 24 = .ok (.invokevirtual 47, 3) := by decide +kernel
theorem dX4_lots_27 : decode cX4_lots 27 = .ok (.ireturn, 1) := by decide +kernel
theorem dX4_lots_28 : decode cX4_lots 28 = .ok (.iload_n 3, 1) := by decide +kernel
theorem dX4_lots_29 : decode cX4_lots 29 = .ok (.iconst 1, 1) := by decide +kernel
theorem dX4_lots_30 : decode cX4_lots 30 = .ok (.if_icmp .ge 10, 3) := by decide +kernel
theorem dX4_lots_33 : decode cX4_lots 33 = .ok (.aload_n 0, 1) := by decide +kernel
theorem dX4_lots_34 : decode cX4_lots 34 = .ok (.bipush (-4), 2) := by decide +kernel
theorem dX4_lots_36 : decode cX4_lots 36 = .ok (.invokevirtual 47, 3) := by decide +kernel
theorem dX4_lots_39 : decode cX4_lots 39 = .ok (.ireturn, 1) := by decide +kernel
theorem dX4_lots_40 : decode cX4_lots 40 = .ok (.iload_n 3, 1) := by decide +kernel
theorem dX4_lots_41 : decode cX4_lots 41 = .ok (.bipush 30, 2) := by decide +kernel
theorem dX4_lots_43 : decode cX4_lots 43 = .ok (.if_icmp .le 10, 3) := by decide +kernel
theorem dX4_lots_46 : decode cX4_lots 46 = .ok (.aload_n 0, 1) := by decide +kernel
theorem dX4_lots_47 : decode cX4_lots 47 = .ok (.bipush (-6), 2) := by decide +kernel
theorem dX4_lots_49 : decode cX4_lots 49 = .ok (.invokevirtual 47, 3) := by decide +kernel
theorem dX4_lots_52 : decode cX4_lots 52 = .ok (.ireturn, 1) := by decide +kernel
theorem dX4_lots_53 : decode cX4_lots 53 = .ok (.aload_n 0, 1) := by decide +kernel
theorem dX4_lots_54 : decode cX4_lots 54 = .ok (.getfield 10, 3) := by decide +kernel
theorem dX4_lots_57 : decode cX4_lots 57 = .ok (.getfield 79, 3) := by decide +kernel
theorem dX4_lots_60 : decode cX4_lots 60 = .ok (.iload_n 1, 1) := by decide +kernel
theorem dX4_lots_61 : decode cX4_lots 61 = .ok (.aaload, 1) := by decide +kernel
theorem dX4_lots_62 : decode cX4_lots 62 = .ok (.astore 5, 2) := by decide +kernel
theorem dX4_lots_64 : decode cX4_lots 64 = .ok (.iconst 1, 1) := by decide +kernel
theorem dX4_lots_65 : decode cX4_lots 65 = .ok (.aload 5, 2) := by decide +kernel
theorem dX4_lots_67 : decode cX4_lots 67 = .ok (.invokevirtual 94, 3) := by decide +kernel
theorem dX4_lots_70 : decode cX4_lots 70 = .ok (.invokestatic 209, 3) := by decide +kernel
theorem dX4_lots_73 : decode cX4_lots 73 = .ok (.istore 6, 2) := by decide +kernel
theorem dX4_lots_75 : decode cX4_lots 75 = .ok (.iload 4, 2) := by decide +kernel
theorem dX4_lots_77 : decode cX4_lots 77 = .ok (.istore 7, 2) := by decide +kernel
theorem dX4_lots_79 : decode cX4_lots 79 = .ok (.iconst 0, 1) := by decide +kernel
theorem dX4_lots_80 : decode cX4_lots 80 = .ok (.istore 8, 2) := by decide +kernel
theorem dX4_lots_82 : decode cX4_lots 82 = .ok (.iconst 0, 1) := by decide +kernel
theorem dX4_lots_83 : decode cX4_lots 83 = .ok (.istore 9, 2) := by decide +kernel
theorem dX4_lots_85 : decode cX4_lots 85 = .ok (.iload 9, 2) := by decide +kernel
theorem dX4_lots_87 : decode cX4_lots 87 = .ok (.iload_n 3, 1) := by decide +kernel
theorem dX4_lots_88 : decode cX4_lots 88 = .ok (.if_icmp .ge 53, 3) := by decide +kernel
theorem dX4_lots_91 : decode cX4_lots 91 = .ok (.iload 7, 2) := by decide +kernel
theorem dX4_lots_93 : decode cX4_lots 93 = .ok (.ldc 212, 2) := by decide +kernel
theorem dX4_lots_95 : decode cX4_lots 95 = .ok (.imul, 1) := by decide +kernel
theorem dX4_lots_96 : decode cX4_lots 96 = .ok (.ldc 213, 2) := by decide +kernel
theorem dX4_lots_98 : decode cX4_lots 98 = .ok (.iadd, 1) := by decide +kernel
theorem dX4_lots_99 : decode cX4_lots 99 = .ok (.istore 7, 2) := by decide +kernel
theorem dX4_lots_101 : decode cX4_lots 101 = .ok (.iload 7, 2) := by decide +kernel
theorem dX4_lots_103 : decode cX4_lots 103 = .ok (.ldc 214, 2) := by decide +kernel
theorem dX4_lots_105 : decode cX4_lots 105 = .ok (.iand, 1) := by decide +kernel
theorem dX4_lots_106 : decode cX4_lots 106 = .ok (.sipush 256, 3) := by decide +kernel
theorem dX4_lots_109 : decode cX4_lots 109 = .ok (.idiv, 1) := by decide +kernel
theorem dX4_lots_110 : decode cX4_lots 110 = .ok (.iload 6, 2) := by decide +kernel
theorem dX4_lots_112 : decode cX4_lots 112 = .ok (.irem, 1) := by decide +kernel
theorem dX4_lots_113 : decode cX4_lots 113 = .ok (.istore 10, 2) := by decide +kernel
theorem dX4_lots_115 : decode cX4_lots 115 = .ok (.iload 8, 2) := by decide +kernel
theorem dX4_lots_117 : decode cX4_lots 117 = .ok (.aload_n 0, 1) := by decide +kernel
theorem dX4_lots_118 : decode cX4_lots 118 = .ok (.aload 5, 2) := by decide +kernel
theorem dX4_lots_120 : decode cX4_lots 120 = .ok (.iload_n 2, 1) := by decide +kernel
theorem dX4_lots_121 : decode cX4_lots 121 = .ok (.iconst 5, 1) := by decide +kernel
theorem dX4_lots_122 : decode cX4_lots 122 = .ok (.aload 5, 2) := by decide +kernel
theorem dX4_lots_124 : decode cX4_lots 124 = .ok (.iload 10, 2) := by decide +kernel
theorem dX4_lots_126 : decode cX4_lots 126 = .ok (.invokevirtual 215, 3) := by decide +kernel
theorem dX4_lots_129 : decode cX4_lots 129 = .ok (.invokevirtual 141, 3) := by decide +kernel
theorem dX4_lots_132 : decode cX4_lots 132 = .ok (.iadd, 1) := by decide +kernel
theorem dX4_lots_133 : decode cX4_lots 133 = .ok (.istore 8, 2) := by decide +kernel
theorem dX4_lots_135 : decode cX4_lots 135 = .ok (.iinc 9 1, 3) := by decide +kernel
theorem dX4_lots_138 : decode cX4_lots 138 = .ok (.goto (-53), 3) := by decide +kernel
theorem dX4_lots_141 : decode cX4_lots 141 = .ok (.iload 8, 2) := by decide +kernel
theorem dX4_lots_143 : decode cX4_lots 143 = .ok (.ireturn, 1) := by decide +kernel
theorem xiX4_image_X2 : GoodIn wsX4_image wsX20 := goodIn_sub (fun _ h => List.mem_cons_of_mem _ (List.mem_append_left _ (List.mem_append_right _ h))) xgwX2
theorem xiX4_image_X0 : GoodIn wsX4_image wsX00 := goodIn_sub (fun _ h => List.mem_cons_of_mem _ (List.mem_append_right _ h)) xgwX0
set_option maxRecDepth 20000 in
theorem ggX4_image_X2_become : GoodIn wsX4_image wsX2_become := (goodIn_ca (goodIn_ca (goodIn_r _ [9, 10, 11, 12, 13, 14, 15, 16, 17, 18, 19, 20, 21, 22, 23, 24, 25, 26, 27, 28, 29, 30, 31] rfl (by decide +kernel)) xiX4_image_X2) xiX4_image_X0)
set_option maxRecDepth 20000 in
theorem gX4_image_X2_become : GoodIn wsX4_image (wsV RX4 58 RX2 yX2_become wsX2_become) := goodIn_app (goodIn_r _ [5, 6, 7, 8] rfl (by decide +kernel)) ggX4_image_X2_become
theorem dX4_image_0 : decode cX4_image 0 = .ok (.aload_n 0, 1) := by decide +kernel
theorem dX4_image_1 : decode cX4_image 1 = .ok (.getfield 19, 3) := by decide +kernel
theorem dX4_image_4 : decode cX4_image 4 = .ok (.aload_n 0, 1) := by decide +kernel
theorem dX4_image_5 : decode cX4_image 5 = .ok (.getfield 10, 3) := by decide +kernel
theorem dX4_image_8 : decode cX4_image 8 = .ok (.invokevirtual 58, 3) := by decide +kernel
theorem dX4_image_11 : decode cX4_image 11 = .ok (.aload_n 0, 1) := by decide +kernel
theorem dX4_image_12 : decode cX4_image 12 = .ok (.iconst 1, 1) := by decide +kernel
theorem dX4_image_13 : decode cX4_image 13 = .ok (.putfield 218, 3) := by decide +kernel
theorem dX4_image_16 : decode cX4_image 16 = .ok (.aload_n 0, 1) := by decide +kernel
theorem dX4_image_17 : decode cX4_image 17 = .ok (.getfield 19, 3) := by decide +kernel
theorem dX4_image_20 : decode cX4_image 20 = .ok (.getfield 222, 3) := by decide +kernel
theorem dX4_image_23 : decode cX4_image 23 = .ok (.ireturn, 1) := by decide +kernel
theorem xiX4_on_X4 : GoodIn wsX4_on wsX40 := goodIn_sub (fun _ h => List.mem_cons_of_mem _ (List.mem_append_left _ (List.mem_append_left _ (List.mem_append_right _ h)))) xgwX4
set_option maxRecDepth 20000 in
theorem ggX4_on_X4_refuse : GoodIn wsX4_on wsX4_refuse := (goodIn_ca (goodIn_r _ [10, 11] rfl (by decide +kernel)) xiX4_on_X4)
set_option maxRecDepth 20000 in
theorem gX4_on_X4_refuse : GoodIn wsX4_on (wsV RX4 47 RX4 yX4_refuse wsX4_refuse) := goodIn_app (goodIn_r _ [6, 7, 8, 9] rfl (by decide +kernel)) ggX4_on_X4_refuse
theorem xiX4_on_X2 : GoodIn wsX4_on wsX20 := goodIn_sub (fun _ h => List.mem_cons_of_mem _ (List.mem_append_left _ (List.mem_append_right _ h))) xgwX2
theorem xiX4_on_X0 : GoodIn wsX4_on wsX00 := goodIn_sub (fun _ h => List.mem_cons_of_mem _ (List.mem_append_right _ h)) xgwX0
set_option maxRecDepth 20000 in
theorem ggX4_on_X2_become : GoodIn wsX4_on wsX2_become := (goodIn_ca (goodIn_ca (goodIn_r _ [16, 17, 18, 19, 20, 21, 22, 23, 24, 25, 26, 27, 28, 29, 30, 31, 32, 33, 34, 35, 36, 37, 38] rfl (by decide +kernel)) xiX4_on_X2) xiX4_on_X0)
set_option maxRecDepth 20000 in
theorem gX4_on_X2_become : GoodIn wsX4_on (wsV RX4 58 RX2 yX2_become wsX2_become) := goodIn_app (goodIn_r _ [12, 13, 14, 15] rfl (by decide +kernel)) ggX4_on_X2_become
theorem dX4_on_0 : decode cX4_on 0 = .ok (.aload_n 0, 1) := by decide +kernel
theorem dX4_on_1 : decode cX4_on 1 = .ok (.getfield 218, 3) := by decide +kernel
theorem dX4_on_4 : decode cX4_on 4 = .ok (.ifCond .ne 10, 3) := by decide +kernel
theorem dX4_on_7 : decode cX4_on 7 = .ok (.aload_n 0, 1) := by decide +kernel
theorem dX4_on_8 : decode cX4_on 8 = .ok (.bipush (-3), 2) := by decide +kernel
theorem dX4_on_10 : decode cX4_on 10 = .ok (.invokevirtual 47, 3) := by decide +kernel
theorem dX4_on_13 : decode cX4_on 13 = .ok (.ireturn, 1) := by decide +kernel
theorem dX4_on_14 : decode cX4_on 14 = .ok (.aload_n 0, 1) := by decide +kernel
theorem dX4_on_15 : decode cX4_on 15 = .ok (.getfield 10, 3) := by decide +kernel
theorem dX4_on_18 : decode cX4_on 18 = .ok (.aload_n 0, 1) := by decide +kernel
theorem dX4_on_19 : decode cX4_on 19 = .ok (.getfield 19, 3) := by decide +kernel
theorem dX4_on_22 : decode cX4_on 22 = .ok (.invokevirtual 58, 3) := by decide +kernel
theorem dX4_on_25 : decode cX4_on 25 = .ok (.aload_n 0, 1) := by decide +kernel
theorem dX4_on_26 : decode cX4_on 26 = .ok (.iconst (-1), 1) := by decide +kernel
theorem dX4_on_27 : decode cX4_on 27 = .ok (.putfield 43, 3) := by decide +kernel
theorem dX4_on_30 : decode cX4_on 30 = .ok (.aload_n 0, 1) := by decide +kernel
theorem dX4_on_31 : decode cX4_on 31 = .ok (.getfield 10, 3) := by decide +kernel
theorem dX4_on_34 : decode cX4_on 34 = .ok (.getfield 222, 3) := by decide +kernel
theorem dX4_on_37 : decode cX4_on 37 = .ok (.ireturn, 1) := by decide +kernel
theorem xiX4_count_X2 : GoodIn wsX4_count wsX20 := goodIn_sub (fun _ h => List.mem_cons_of_mem _ (List.mem_append_left _ (List.mem_append_right _ h))) xgwX2
set_option maxRecDepth 20000 in
theorem ggX4_count_X2_yards : GoodIn wsX4_count wsX2_yards := (goodIn_ca (goodIn_r _ [15, 16, 17, 18] rfl (by decide +kernel)) xiX4_count_X2)
set_option maxRecDepth 20000 in
theorem gX4_count_X2_yards : GoodIn wsX4_count (wsV RX4 228 RX2 yX2_yards wsX2_yards) := goodIn_app (goodIn_r _ [11, 12, 13, 14] rfl (by decide +kernel)) ggX4_count_X2_yards
theorem dX4_count_0 : decode cX4_count 0 = .ok (.iload_n 1, 1) := by decide +kernel
theorem dX4_count_1 : decode cX4_count 1 = .ok (.bipush 11, 2) := by decide +kernel
theorem dX4_count_3 : decode cX4_count 3 = .ok (.if_icmp .lt 19, 3) := by decide +kernel
theorem dX4_count_6 : decode cX4_count 6 = .ok (.iload_n 1, 1) := by decide +kernel
theorem dX4_count_7 : decode cX4_count 7 = .ok (.bipush 16, 2) := by decide +kernel
theorem dX4_count_9 : decode cX4_count 9 = .ok (.if_icmp .gt 13, 3) := by decide +kernel
theorem dX4_count_12 : decode cX4_count 12 = .ok (.aload_n 0, 1) := by decide +kernel
theorem dX4_count_13 : decode cX4_count 13 = .ok (.getfield 40, 3) := by decide +kernel
theorem dX4_count_16 : decode cX4_count 16 = .ok (.iload_n 1, 1) := by decide +kernel
theorem dX4_count_17 : decode cX4_count 17 = .ok (.bipush 10, 2) := by decide +kernel
theorem dX4_count_19 : decode cX4_count 19 = .ok (.isub, 1) := by decide +kernel
theorem dX4_count_20 : decode cX4_count 20 = .ok (.iaload, 1) := by decide +kernel
theorem dX4_count_21 : decode cX4_count 21 = .ok (.ireturn, 1) := by decide +kernel
theorem dX4_count_22 : decode cX4_count 22 = .ok (.iload_n 1, 1) := by decide +kernel
theorem dX4_count_23 : decode cX4_count 23 = .ok (.tableswitch 106 0 7 #[45, 53, 61, 69, 77, 85, 93, 98], 45) := by decide +kernel
theorem dX4_count_68 : decode cX4_count 68 = .ok (.aload_n 0, 1) := by decide +kernel
theorem dX4_count_69 : decode cX4_count 69 = .ok (.getfield 10, 3) := by decide +kernel
theorem dX4_count_72 : decode cX4_count 72 = .ok (.getfield 222, 3) := by decide +kernel
theorem dX4_count_75 : decode cX4_count 75 = .ok (.ireturn, 1) := by decide +kernel
theorem dX4_count_76 : decode cX4_count 76 = .ok (.aload_n 0, 1) := by decide +kernel
theorem dX4_count_77 : decode cX4_count 77 = .ok (.getfield 10, 3) := by decide +kernel
theorem dX4_count_80 : decode cX4_count 80 = .ok (.getfield 225, 3) := by decide +kernel
theorem dX4_count_83 : decode cX4_count 83 = .ok (.ireturn, 1) := by decide +kernel
theorem dX4_count_84 : decode cX4_count 84 = .ok (.aload_n 0, 1) := by decide +kernel
theorem dX4_count_85 : decode cX4_count 85 = .ok (.getfield 10, 3) := by decide +kernel
theorem dX4_count_88 : decode cX4_count 88 = .ok (.invokevirtual 228, 3) := by decide +kernel
theorem dX4_count_91 : decode cX4_count 91 = .ok (.ireturn, 1) := by decide +kernel
theorem dX4_count_92 : decode cX4_count 92 = .ok (.aload_n 0, 1) := by decide +kernel
theorem dX4_count_93 : decode cX4_count 93 = .ok (.getfield 10, 3) := by decide +kernel
theorem dX4_count_96 : decode cX4_count 96 = .ok (.getfield 182, 3) := by decide +kernel
theorem dX4_count_99 : decode cX4_count 99 = .ok (.ireturn, 1) := by decide +kernel
theorem dX4_count_100 : decode cX4_count 100 = .ok (.aload_n 0, 1) := by decide +kernel
theorem dX4_count_101 : decode cX4_count 101 = .ok (.getfield 10, 3) := by decide +kernel
theorem dX4_count_104 : decode cX4_count 104 = .ok (.getfield 231, 3) := by decide +kernel
theorem dX4_count_107 : decode cX4_count 107 = .ok (.ireturn, 1) := by decide +kernel
theorem dX4_count_108 : decode cX4_count 108 = .ok (.aload_n 0, 1) := by decide +kernel
theorem dX4_count_109 : decode cX4_count 109 = .ok (.getfield 10, 3) := by decide +kernel
theorem dX4_count_112 : decode cX4_count 112 = .ok (.getfield 234, 3) := by decide +kernel
theorem dX4_count_115 : decode cX4_count 115 = .ok (.ireturn, 1) := by decide +kernel
theorem dX4_count_116 : decode cX4_count 116 = .ok (.aload_n 0, 1) := by decide +kernel
theorem dX4_count_117 : decode cX4_count 117 = .ok (.getfield 200, 3) := by decide +kernel
theorem dX4_count_120 : decode cX4_count 120 = .ok (.ireturn, 1) := by decide +kernel
theorem dX4_count_121 : decode cX4_count 121 = .ok (.aload_n 0, 1) := by decide +kernel
theorem dX4_count_122 : decode cX4_count 122 = .ok (.getfield 32, 3) := by decide +kernel
theorem dX4_count_125 : decode cX4_count 125 = .ok (.getfield 51, 3) := by decide +kernel
theorem dX4_count_128 : decode cX4_count 128 = .ok (.ireturn, 1) := by decide +kernel
theorem dX4_count_129 : decode cX4_count 129 = .ok (.bipush (-9), 2) := by decide +kernel
theorem dX4_count_131 : decode cX4_count 131 = .ok (.ireturn, 1) := by decide +kernel
theorem dX4_refuse_0 : decode cX4_refuse 0 = .ok (.iload_n 1, 1) := by decide +kernel
theorem dX4_refuse_1 : decode cX4_refuse 1 = .ok (.ineg, 1) := by decide +kernel
theorem dX4_refuse_2 : decode cX4_refuse 2 = .ok (.istore_n 2, 1) := by decide +kernel
theorem dX4_refuse_3 : decode cX4_refuse 3 = .ok (.iload_n 2, 1) := by decide +kernel
theorem dX4_refuse_4 : decode cX4_refuse 4 = .ok (.ifCond .le 22, 3) := by decide +kernel
theorem dX4_refuse_7 : decode cX4_refuse 7 = .ok (.iload_n 2, 1) := by decide +kernel
theorem dX4_refuse_8 : decode cX4_refuse 8 = .ok (.aload_n 0, 1) := by decide +kernel
theorem dX4_refuse_9 : decode cX4_refuse 9 = .ok (.getfield 40, 3) := by decide +kernel
theorem dX4_refuse_12 : decode cX4_refuse 12 = .ok (.arraylength, 1) := by decide +kernel
theorem dX4_refuse_13 : decode cX4_refuse 13 = .ok (.if_icmp .ge 13, 3) := by decide +kernel
theorem dX4_refuse_16 : decode cX4_refuse 16 = .ok (.aload_n 0, 1) := by decide +kernel
theorem dX4_refuse_17 : decode cX4_refuse 17 = .ok (.getfield 40, 3) := by decide +kernel
theorem dX4_refuse_20 : decode cX4_refuse 20 = .ok (.iload_n 2, 1) := by decide +kernel
theorem dX4_refuse_21 : decode cX4_refuse 21 = .ok (.dup2, 1) := by decide +kernel
theorem dX4_refuse_22 : decode cX4_refuse 22 = .ok (.iaload, 1) := by decide +kernel
theorem dX4_refuse_23 : decode cX4_refuse 23 = .ok (.iconst 1, 1) := by decide +kernel
theorem dX4_refuse_24 : decode cX4_refuse 24 = .ok (.iadd, 1) := by decide +kernel
theorem dX4_refuse_25 : decode cX4_refuse 25 = .ok (.iastore, 1) := by decide +kernel
theorem dX4_refuse_26 : decode cX4_refuse 26 = .ok (.iload_n 1, 1) := by decide +kernel
theorem dX4_refuse_27 : decode cX4_refuse 27 = .ok (.ireturn, 1) := by decide +kernel
theorem xiX4_refuseLong_X4 : GoodIn wsX4_refuseLong wsX40 := goodIn_sub (fun _ h => List.mem_cons_of_mem _ (List.mem_append_right _ h)) xgwX4
set_option maxRecDepth 20000 in
theorem ggX4_refuseLong_X4_refuse : GoodIn wsX4_refuseLong wsX4_refuse := (goodIn_ca (goodIn_r _ [6, 7] rfl (by decide +kernel)) xiX4_refuseLong_X4)
set_option maxRecDepth 20000 in
theorem gX4_refuseLong_X4_refuse : GoodIn wsX4_refuseLong (wsV RX4 47 RX4 yX4_refuse wsX4_refuse) := goodIn_app (goodIn_r _ [2, 3, 4, 5] rfl (by decide +kernel)) ggX4_refuseLong_X4_refuse
theorem dX4_refuseLong_0 : decode cX4_refuseLong 0 = .ok (.ldc2_w 237, 3) := by decide +kernel
theorem dX4_refuseLong_3 : decode cX4_refuseLong 3 = .ok (.aload_n 0, 1) := by decide +kernel
theorem dX4_refuseLong_4 : decode cX4_refuseLong 4 = .ok (.iload_n 1, 1) := by decide +kernel
theorem dX4_refuseLong_5 : decode cX4_refuseLong 5 = .ok (.invokevirtual 47, 3) := by decide +kernel
theorem dX4_refuseLong_8 : decode cX4_refuseLong 8 = .ok (.i2l, 1) := by decide +kernel
theorem dX4_refuseLong_9 : decode cX4_refuseLong 9 = .ok (.lsub, 1) := by decide +kernel
theorem dX4_refuseLong_10 : decode cX4_refuseLong 10 = .ok (.lreturn, 1) := by decide +kernel
theorem dX4_noStop_0 : decode cX4_noStop 0 = .ok (.iload_n 1, 1) := by decide +kernel
theorem dX4_noStop_1 : decode cX4_noStop 1 = .ok (.ifCond .lt 14, 3) := by decide +kernel
theorem dX4_noStop_4 : decode cX4_noStop 4 = .ok (.iload_n 1, 1) := by decide +kernel
theorem dX4_noStop_5 : decode cX4_noStop 5 = .ok (.aload_n 0, 1) := by decide +kernel
theorem dX4_noStop_6 : decode cX4_noStop 6 = .ok (.getfield 10, 3) := by decide +kernel
theorem dX4_noStop_9 : decode cX4_noStop 9 = .ok (.getfield 222, 3) := by decide +kernel
theorem dX4_noStop_12 : decode cX4_noStop 12 = .ok (.if_icmp .lt 7, 3) := by decide +kernel
theorem dX4_noStop_15 : decode cX4_noStop 15 = .ok (.iconst 1, 1) := by decide +kernel
theorem dX4_noStop_16 : decode cX4_noStop 16 = .ok (.goto 4, 3) := by decide +kernel
theorem dX4_noStop_19 : decode cX4_noStop 19 = .ok (.iconst 0, 1) := by decide +kernel
theorem dX4_noStop_20 : decode cX4_noStop 20 = .ok (.ireturn, 1) := by decide +kernel
theorem dX4_noLine_0 : decode cX4_noLine 0 = .ok (.iload_n 1, 1) := by decide +kernel
theorem dX4_noLine_1 : decode cX4_noLine 1 = .ok (.ifCond .lt 14, 3) := by decide +kernel
theorem dX4_noLine_4 : decode cX4_noLine 4 = .ok (.iload_n 1, 1) := by decide +kernel
theorem dX4_noLine_5 : decode cX4_noLine 5 = .ok (.aload_n 0, 1) := by decide +kernel
theorem dX4_noLine_6 : decode cX4_noLine 6 = .ok (.getfield 10, 3) := by decide +kernel
theorem dX4_noLine_9 : decode cX4_noLine 9 = .ok (.getfield 225, 3) := by decide +kernel
theorem dX4_noLine_12 : decode cX4_noLine 12 = .ok (.if_icmp .lt 7, 3) := by decide +kernel
theorem dX4_noLine_15 : decode cX4_noLine 15 = .ok (.iconst 1, 1) := by decide +kernel
theorem dX4_noLine_16 : decode cX4_noLine 16 = .ok (.goto 4, 3) := by decide +kernel
theorem dX4_noLine_19 : decode cX4_noLine 19 = .ok (.iconst 0, 1) := by decide +kernel
theorem dX4_noLine_20 : decode cX4_noLine 20 = .ok (.ireturn, 1) := by decide +kernel
theorem xiX4_noPair_X4 : GoodIn wsX4_noPair wsX40 := goodIn_sub (fun _ h => List.mem_cons_of_mem _ (List.mem_append_left _ (List.mem_append_right _ h))) xgwX4
theorem xiX4_noPair_X2 : GoodIn wsX4_noPair wsX20 := goodIn_sub (fun _ h => List.mem_cons_of_mem _ (List.mem_append_right _ h)) xgwX2
set_option maxRecDepth 20000 in
theorem ggX4_noPair_X4_noLine : GoodIn wsX4_noPair wsX4_noLine := (goodIn_ca (goodIn_ca (goodIn_r _ [5, 6, 7] rfl (by decide +kernel)) xiX4_noPair_X4) xiX4_noPair_X2)
set_option maxRecDepth 20000 in
theorem gX4_noPair_X4_noLine : GoodIn wsX4_noPair (wsV RX4 76 RX4 yX4_noLine wsX4_noLine) := goodIn_app (goodIn_r _ [1, 2, 3, 4] rfl (by decide +kernel)) ggX4_noPair_X4_noLine
theorem dX4_noPair_0 : decode cX4_noPair 0 = .ok (.aload_n 0, 1) := by decide +kernel
theorem dX4_noPair_1 : decode cX4_noPair 1 = .ok (.iload_n 1, 1) := by decide +kernel
theorem dX4_noPair_2 : decode cX4_noPair 2 = .ok (.invokevirtual 76, 3) := by decide +kernel
theorem dX4_noPair_5 : decode cX4_noPair 5 = .ok (.ifCond .ne 16, 3) := by decide +kernel
theorem dX4_noPair_8 : decode cX4_noPair 8 = .ok (.aload_n 0, 1) := by decide +kernel
theorem dX4_noPair_9 : decode cX4_noPair 9 = .ok (.iload_n 2, 1) := by decide +kernel
theorem dX4_noPair_10 : decode cX4_noPair 10 = .ok (.invokevirtual 76, 3) := by decide +kernel
theorem dX4_noPair_13 : decode cX4_noPair 13 = .ok (.ifCond .ne 8, 3) := by decide +kernel
theorem dX4_noPair_16 : decode cX4_noPair 16 = .ok (.iload_n 1, 1) := by decide +kernel
theorem dX4_noPair_17 : decode cX4_noPair 17 = .ok (.iload_n 2, 1) := by decide +kernel
theorem dX4_noPair_18 : decode cX4_noPair 18 = .ok (.if_icmp .ne 7, 3) := by decide +kernel
theorem dX4_noPair_21 : decode cX4_noPair 21 = .ok (.iconst 1, 1) := by decide +kernel
theorem dX4_noPair_22 : decode cX4_noPair 22 = .ok (.goto 4, 3) := by decide +kernel
theorem dX4_noPair_25 : decode cX4_noPair 25 = .ok (.iconst 0, 1) := by decide +kernel
theorem dX4_noPair_26 : decode cX4_noPair 26 = .ok (.ireturn, 1) := by decide +kernel
theorem dX4_noKind_0 : decode cX4_noKind 0 = .ok (.iload_n 0, 1) := by decide +kernel
theorem dX4_noKind_1 : decode cX4_noKind 1 = .ok (.ifCond .lt 8, 3) := by decide +kernel
theorem dX4_noKind_4 : decode cX4_noKind 4 = .ok (.iload_n 0, 1) := by decide +kernel
theorem dX4_noKind_5 : decode cX4_noKind 5 = .ok (.iconst 5, 1) := by decide +kernel
theorem dX4_noKind_6 : decode cX4_noKind 6 = .ok (.if_icmp .le 7, 3) := by decide +kernel
theorem dX4_noKind_9 : decode cX4_noKind 9 = .ok (.iconst 1, 1) := by decide +kernel
theorem dX4_noKind_10 : decode cX4_noKind 10 = .ok (.goto 4, 3) := by decide +kernel
theorem dX4_noKind_13 : decode cX4_noKind 13 = .ok (.iconst 0, 1) := by decide +kernel
theorem dX4_noKind_14 : decode cX4_noKind 14 = .ok (.ireturn, 1) := by decide +kernel
theorem dX4_noPart_0 : decode cX4_noPart 0 = .ok (.iload_n 0, 1) := by decide +kernel
theorem dX4_noPart_1 : decode cX4_noPart 1 = .ok (.ifCond .lt 8, 3) := by decide +kernel
theorem dX4_noPart_4 : decode cX4_noPart 4 = .ok (.iload_n 0, 1) := by decide +kernel
theorem dX4_noPart_5 : decode cX4_noPart 5 = .ok (.iconst 1, 1) := by decide +kernel
theorem dX4_noPart_6 : decode cX4_noPart 6 = .ok (.if_icmp .le 7, 3) := by decide +kernel
theorem dX4_noPart_9 : decode cX4_noPart 9 = .ok (.iconst 1, 1) := by decide +kernel
theorem dX4_noPart_10 : decode cX4_noPart 10 = .ok (.goto 4, 3) := by decide +kernel
theorem dX4_noPart_13 : decode cX4_noPart 13 = .ok (.iconst 0, 1) := by decide +kernel
theorem dX4_noPart_14 : decode cX4_noPart 14 = .ok (.ireturn, 1) := by decide +kernel
theorem xiX4_noGoer_X4 : GoodIn wsX4_noGoer wsX40 := goodIn_sub (fun _ h => List.mem_cons_of_mem _ (List.mem_append_left _ (List.mem_append_right _ h))) xgwX4
theorem xiX4_noGoer_X2 : GoodIn wsX4_noGoer wsX20 := goodIn_sub (fun _ h => List.mem_cons_of_mem _ (List.mem_append_right _ h)) xgwX2
set_option maxRecDepth 20000 in
theorem ggX4_noGoer_X4_noLine : GoodIn wsX4_noGoer wsX4_noLine := (goodIn_ca (goodIn_ca (goodIn_r _ [5, 6, 7] rfl (by decide +kernel)) xiX4_noGoer_X4) xiX4_noGoer_X2)
set_option maxRecDepth 20000 in
theorem gX4_noGoer_X4_noLine : GoodIn wsX4_noGoer (wsV RX4 76 RX4 yX4_noLine wsX4_noLine) := goodIn_app (goodIn_r _ [1, 2, 3, 4] rfl (by decide +kernel)) ggX4_noGoer_X4_noLine
set_option maxRecDepth 20000 in
theorem ggX4_noGoer_X4_noKind : GoodIn wsX4_noGoer wsX4_noKind := goodIn_r _ [10] rfl (by decide +kernel)
set_option maxRecDepth 20000 in
theorem gX4_noGoer_X4_noKind : GoodIn wsX4_noGoer (va_wsS RX4 206 yX4_noKind wsX4_noKind) := goodIn_app (goodIn_r _ [8, 9, 4] rfl (by decide +kernel)) ggX4_noGoer_X4_noKind
theorem dX4_noGoer_0 : decode cX4_noGoer 0 = .ok (.aload_n 0, 1) := by decide +kernel
theorem dX4_noGoer_1 : decode cX4_noGoer 1 = .ok (.iload_n 1, 1) := by decide +kernel
theorem dX4_noGoer_2 : decode cX4_noGoer 2 = .ok (.invokevirtual 76, 3) := by decide +kernel
theorem dX4_noGoer_5 : decode cX4_noGoer 5 = .ok (.ifCond .eq 5, 3) := by decide +kernel
theorem dX4_noGoer_8 : decode cX4_noGoer 8 = .ok (.iconst (-1), 1) := by decide +kernel
theorem dX4_noGoer_9 : decode cX4_noGoer 9 = .ok (.ireturn, 1) := by decide +kernel
theorem dX4_noGoer_10 : decode cX4_noGoer 10 = .ok (.iload_n 2, 1) := by decide +kernel
theorem dX4_noGoer_11 : decode cX4_noGoer 11 = .ok (.invokestatic 206, 3) := by decide +kernel
theorem dX4_noGoer_14 : decode cX4_noGoer 14 = .ok (.ifCond .eq 6, 3) := by decide +kernel
theorem dX4_noGoer_17 : decode cX4_noGoer 17 = .ok (.bipush (-2), 2) := by decide +kernel
theorem dX4_noGoer_19 : decode cX4_noGoer 19 = .ok (.ireturn, 1) := by decide +kernel
theorem dX4_noGoer_20 : decode cX4_noGoer 20 = .ok (.iload_n 3, 1) := by decide +kernel
theorem dX4_noGoer_21 : decode cX4_noGoer 21 = .ok (.ifCond .lt 8, 3) := by decide +kernel
theorem dX4_noGoer_24 : decode cX4_noGoer 24 = .ok (.iload 4, 2) := by decide +kernel
theorem dX4_noGoer_26 : decode cX4_noGoer 26 = .ok (.ifCond .ge 6, 3) := by decide +kernel
theorem dX4_noGoer_29 : decode cX4_noGoer 29 = .ok (.bipush (-4), 2) := by decide +kernel
theorem dX4_noGoer_31 : decode cX4_noGoer 31 = .ok (.ireturn, 1) := by decide +kernel
theorem dX4_noGoer_32 : decode cX4_noGoer 32 = .ok (.iload_n 3, 1) := by decide +kernel
theorem dX4_noGoer_33 : decode cX4_noGoer 33 = .ok (.bipush 12, 2) := by decide +kernel
theorem dX4_noGoer_35 : decode cX4_noGoer 35 = .ok (.if_icmp .gt 10, 3) := by decide +kernel
theorem dX4_noGoer_38 : decode cX4_noGoer 38 = .ok (.iload 4, 2) := by decide +kernel
theorem dX4_noGoer_40 : decode cX4_noGoer 40 = .ok (.iload 5, 2) := by decide +kernel
theorem dX4_noGoer_42 : decode cX4_noGoer 42 = .ok (.if_icmp .le 8, 3) := by decide +kernel
theorem dX4_noGoer_45 : decode cX4_noGoer 45 = .ok (.bipush (-6), 2) := by decide +kernel
theorem dX4_noGoer_47 : decode cX4_noGoer 47 = .ok (.goto 4, 3) := by decide +kernel
theorem dX4_noGoer_50 : decode cX4_noGoer 50 = .ok (.iconst 0, 1) := by decide +kernel
theorem dX4_noGoer_51 : decode cX4_noGoer 51 = .ok (.ireturn, 1) := by decide +kernel
theorem xiX4_noPlace_X4 : GoodIn wsX4_noPlace wsX40 := goodIn_sub (fun _ h => List.mem_cons_of_mem _ (List.mem_append_left _ (List.mem_append_right _ h))) xgwX4
theorem xiX4_noPlace_X2 : GoodIn wsX4_noPlace wsX20 := goodIn_sub (fun _ h => List.mem_cons_of_mem _ (List.mem_append_right _ h)) xgwX2
set_option maxRecDepth 20000 in
theorem ggX4_noPlace_X4_noLine : GoodIn wsX4_noPlace wsX4_noLine := (goodIn_ca (goodIn_ca (goodIn_r _ [5, 6, 7] rfl (by decide +kernel)) xiX4_noPlace_X4) xiX4_noPlace_X2)
set_option maxRecDepth 20000 in
theorem gX4_noPlace_X4_noLine : GoodIn wsX4_noPlace (wsV RX4 76 RX4 yX4_noLine wsX4_noLine) := goodIn_app (goodIn_r _ [1, 2, 3, 4] rfl (by decide +kernel)) ggX4_noPlace_X4_noLine
set_option maxRecDepth 20000 in
theorem ggX4_noPlace_X4_noStop : GoodIn wsX4_noPlace wsX4_noStop := (goodIn_ca (goodIn_ca (goodIn_r _ [11, 6, 12] rfl (by decide +kernel)) xiX4_noPlace_X4) xiX4_noPlace_X2)
set_option maxRecDepth 20000 in
theorem gX4_noPlace_X4_noStop : GoodIn wsX4_noPlace (wsV RX4 66 RX4 yX4_noStop wsX4_noStop) := goodIn_app (goodIn_r _ [8, 9, 10, 4] rfl (by decide +kernel)) ggX4_noPlace_X4_noStop
theorem dX4_noPlace_0 : decode cX4_noPlace 0 = .ok (.aload_n 0, 1) := by decide +kernel
theorem dX4_noPlace_1 : decode cX4_noPlace 1 = .ok (.iload_n 1, 1) := by decide +kernel
theorem dX4_noPlace_2 : decode cX4_noPlace 2 = .ok (.invokevirtual 76, 3) := by decide +kernel
theorem dX4_noPlace_5 : decode cX4_noPlace 5 = .ok (.ifCond .ne 11, 3) := by decide +kernel
theorem dX4_noPlace_8 : decode cX4_noPlace 8 = .ok (.aload_n 0, 1) := by decide +kernel
theorem dX4_noPlace_9 : decode cX4_noPlace 9 = .ok (.iload_n 2, 1) := by decide +kernel
theorem dX4_noPlace_10 : decode cX4_noPlace 10 = .ok (.invokevirtual 66, 3) := by decide +kernel
theorem dX4_noPlace_13 : decode cX4_noPlace 13 = .ok (.ifCond .eq 5, 3) := by decide +kernel
theorem dX4_noPlace_16 : decode cX4_noPlace 16 = .ok (.iconst (-1), 1) := by decide +kernel
theorem dX4_noPlace_17 : decode cX4_noPlace 17 = .ok (.ireturn, 1) := by decide +kernel
theorem dX4_noPlace_18 : decode cX4_noPlace 18 = .ok (.iload_n 3, 1) := by decide +kernel
theorem dX4_noPlace_19 : decode cX4_noPlace 19 = .ok (.ifCond .ge 6, 3) := by decide +kernel
theorem dX4_noPlace_22 : decode cX4_noPlace 22 = .ok (.bipush (-4), 2) := by decide +kernel
theorem dX4_noPlace_24 : decode cX4_noPlace 24 = .ok (.ireturn, 1) := by decide +kernel
theorem dX4_noPlace_25 : decode cX4_noPlace 25 = .ok (.iload_n 3, 1) := by decide +kernel
theorem dX4_noPlace_26 : decode cX4_noPlace 26 = .ok (.iload 4, 2) := by decide +kernel
theorem dX4_noPlace_28 : decode cX4_noPlace 28 = .ok (.if_icmp .le 8, 3) := by decide +kernel
theorem dX4_noPlace_31 : decode cX4_noPlace 31 = .ok (.bipush (-6), 2) := by decide +kernel
theorem dX4_noPlace_33 : decode cX4_noPlace 33 = .ok (.goto 4, 3) := by decide +kernel
theorem dX4_noPlace_36 : decode cX4_noPlace 36 = .ok (.iconst 0, 1) := by decide +kernel
theorem dX4_noPlace_37 : decode cX4_noPlace 37 = .ok (.ireturn, 1) := by decide +kernel
theorem dX4_fraction_0 : decode cX4_fraction 0 = .ok (.iload_n 0, 1) := by decide +kernel
theorem dX4_fraction_1 : decode cX4_fraction 1 = .ok (.ifCond .le 7, 3) := by decide +kernel
theorem dX4_fraction_4 : decode cX4_fraction 4 = .ok (.iload_n 1, 1) := by decide +kernel
theorem dX4_fraction_5 : decode cX4_fraction 5 = .ok (.ifCond .gt 13, 3) := by decide +kernel
theorem dX4_fraction_8 : decode cX4_fraction 8 = .ok (.iload_n 2, 1) := by decide +kernel
theorem dX4_fraction_9 : decode cX4_fraction 9 = .ok (.ifCond .ne 7, 3) := by decide +kernel
theorem dX4_fraction_12 : decode cX4_fraction 12 = .ok (.lconst 0, 1) := by decide +kernel
theorem dX4_fraction_13 : decode cX4_fraction 13 = .ok (.goto 4, 3) := by decide +kernel
theorem dX4_fraction_16 : decode cX4_fraction 16 = .ok (.lconst 1, 1) := by decide +kernel
theorem dX4_fraction_17 : decode cX4_fraction 17 = .ok (.lreturn, 1) := by decide +kernel
theorem dX4_fraction_18 : decode cX4_fraction 18 = .ok (.iload_n 1, 1) := by decide +kernel
theorem dX4_fraction_19 : decode cX4_fraction 19 = .ok (.istore_n 3, 1) := by decide +kernel
theorem dX4_fraction_20 : decode cX4_fraction 20 = .ok (.iload_n 0, 1) := by decide +kernel
theorem dX4_fraction_21 : decode cX4_fraction 21 = .ok (.iload_n 1, 1) := by decide +kernel
theorem dX4_fraction_22 : decode cX4_fraction 22 = .ok (.irem, 1) := by decide +kernel
theorem dX4_fraction_23 : decode cX4_fraction 23 = .ok (.istore 4, 2) := by decide +kernel
theorem dX4_fraction_25 : decode cX4_fraction 25 = .ok (.iconst 0, 1) := by decide +kernel
theorem dX4_fraction_26 : decode cX4_fraction 26 = .ok (.istore 5, 2) := by decide +kernel
theorem dX4_fraction_28 : decode cX4_fraction 28 = .ok (.iload 5, 2) := by decide +kernel
theorem dX4_fraction_30 : decode cX4_fraction 30 = .ok (.bipush 100, 2) := by decide +kernel
theorem dX4_fraction_32 : decode cX4_fraction 32 = .ok (.if_icmp .ge 27, 3) := by decide +kernel
theorem dX4_fraction_35 : decode cX4_fraction 35 = .ok (.iload 4, 2) := by decide +kernel
theorem dX4_fraction_37 : decode cX4_fraction 37 = .ok (.ifCond .le 22, 3) := by decide +kernel
theorem dX4_fraction_40 : decode cX4_fraction 40 = .ok (.iload_n 3, 1) := by decide +kernel
theorem dX4_fraction_41 : decode cX4_fraction 41 = .ok (.iload 4, 2) := by decide +kernel
theorem dX4_fraction_43 : decode cX4_fraction 43 = .ok (.irem, 1) := by decide +kernel
theorem dX4_fraction_44 : decode cX4_fraction 44 = .ok (.istore 6, 2) := by decide +kernel
theorem dX4_fraction_46 : decode cX4_fraction 46 = .ok (.iload 4, 2) := by decide +kernel
theorem dX4_fraction_48 : decode cX4_fraction 48 = .ok (.istore_n 3, 1) := by decide +kernel
theorem dX4_fraction_49 : decode cX4_fraction 49 = .ok (.iload 6, 2) := by decide +kernel
theorem dX4_fraction_51 : decode cX4_fraction 51 = .ok (.istore 4, 2) := by decide +kernel
theorem dX4_fraction_53 : decode cX4_fraction 53 = .ok (.iinc 5 1, 3) := by decide +kernel
theorem dX4_fraction_56 : decode cX4_fraction 56 = .ok (.goto (-28), 3) := by decide +kernel
theorem dX4_fraction_59 : decode cX4_fraction 59 = .ok (.iload_n 2, 1) := by decide +kernel
theorem dX4_fraction_60 : decode cX4_fraction 60 = .ok (.ifCond .ne 10, 3) := by decide +kernel
theorem dX4_fraction_63 : decode cX4_fraction 63 = .ok (.iload_n 0, 1) := by decide +kernel
theorem dX4_fraction_64 : decode cX4_fraction 64 = .ok (.iload_n 3, 1) := by decide +kernel
theorem dX4_fraction_65 : decode cX4_fraction 65 = .ok (.idiv, 1) := by decide +kernel
theorem dX4_fraction_66 : decode cX4_fraction 66 = .ok (.i2l, 1) := by decide +kernel
theorem dX4_fraction_67 : decode cX4_fraction 67 = .ok (.goto 7, 3) := by decide +kernel
theorem dX4_fraction_70 : decode cX4_fraction 70 = .ok (.iload_n 1, 1) := by decide +kernel
theorem dX4_fraction_71 : decode cX4_fraction 71 = .ok (.iload_n 3, 1) := by decide +kernel
theorem dX4_fraction_72 : decode cX4_fraction 72 = .ok (.idiv, 1) := by decide +kernel
theorem dX4_fraction_73 : decode cX4_fraction 73 = .ok (.i2l, 1) := by decide +kernel
theorem dX4_fraction_74 : decode cX4_fraction 74 = .ok (.lreturn, 1) := by decide +kernel
theorem xiX4_goerHome_X2 : GoodIn wsX4_goerHome wsX20 := goodIn_sub (fun _ h => List.mem_cons_of_mem _ (List.mem_append_left _ (List.mem_append_right _ h))) xgwX2
set_option maxRecDepth 20000 in
theorem ggX4_goerHome_X2_last : GoodIn wsX4_goerHome wsX2_last := (goodIn_ca (goodIn_r _ [8, 9] rfl (by decide +kernel)) xiX4_goerHome_X2)
set_option maxRecDepth 20000 in
theorem gX4_goerHome_X2_last : GoodIn wsX4_goerHome (wsV RX4 98 RX2 yX2_last wsX2_last) := goodIn_app (goodIn_r _ [4, 5, 6, 7] rfl (by decide +kernel)) ggX4_goerHome_X2_last
set_option maxRecDepth 20000 in
theorem ggX4_goerHome_X2_wayFrom : GoodIn wsX4_goerHome wsX2_wayFrom := (goodIn_ca (goodIn_r _ [13, 14, 15, 16, 7, 17, 9, 18, 19] rfl (by decide +kernel)) xiX4_goerHome_X2)
set_option maxRecDepth 20000 in
theorem gX4_goerHome_X2_wayFrom : GoodIn wsX4_goerHome (wsV RX4 203 RX2 yX2_wayFrom wsX2_wayFrom) := goodIn_app (goodIn_r _ [10, 11, 12, 7] rfl (by decide +kernel)) ggX4_goerHome_X2_wayFrom
theorem xiX4_goerHome_X4 : GoodIn wsX4_goerHome wsX40 := goodIn_sub (fun _ h => List.mem_cons_of_mem _ (List.mem_append_left _ (List.mem_append_left _ (List.mem_append_right _ h)))) xgwX4
set_option maxRecDepth 20000 in
theorem ggX4_goerHome_X4_waitOf : GoodIn wsX4_goerHome wsX4_waitOf := (goodIn_ca (goodIn_ca (goodIn_r _ [24, 1, 25] rfl (by decide +kernel)) xiX4_goerHome_X4) xiX4_goerHome_X2)
set_option maxRecDepth 20000 in
theorem gX4_goerHome_X4_waitOf : GoodIn wsX4_goerHome (wsV RX4 239 RX4 yX4_waitOf wsX4_waitOf) := goodIn_app (goodIn_r _ [20, 21, 22, 23] rfl (by decide +kernel)) ggX4_goerHome_X4_waitOf
theorem xiX4_goerHome_X0 : GoodIn wsX4_goerHome wsX00 := goodIn_sub (fun _ h => List.mem_cons_of_mem _ (List.mem_append_right _ h)) xgwX0
set_option maxRecDepth 20000 in
theorem ggX4_goerHome_X0_rideTo : GoodIn wsX4_goerHome wsX0_rideTo := (goodIn_ca (goodIn_r _ [30, 31, 32] rfl (by decide +kernel)) xiX4_goerHome_X0)
set_option maxRecDepth 20000 in
theorem gX4_goerHome_X0_rideTo : GoodIn wsX4_goerHome (wsV RX4 101 RX0 yX0_rideTo wsX0_rideTo) := goodIn_app (goodIn_r _ [26, 27, 28, 29] rfl (by decide +kernel)) ggX4_goerHome_X0_rideTo
set_option maxRecDepth 20000 in
theorem ggX4_goerHome_X0_halts : GoodIn wsX4_goerHome wsX0_halts := (goodIn_ca (goodIn_r _ [36, 31] rfl (by decide +kernel)) xiX4_goerHome_X0)
set_option maxRecDepth 20000 in
theorem gX4_goerHome_X0_halts : GoodIn wsX4_goerHome (wsV RX4 107 RX0 yX0_halts wsX0_halts) := goodIn_app (goodIn_r _ [33, 34, 35, 29] rfl (by decide +kernel)) ggX4_goerHome_X0_halts
theorem dX4_goerHome_0 : decode cX4_goerHome 0 = .ok (.aload_n 0, 1) := by decide +kernel
theorem dX4_goerHome_1 : decode cX4_goerHome 1 = .ok (.getfield 10, 3) := by decide +kernel
theorem dX4_goerHome_4 : decode cX4_goerHome 4 = .ok (.invokevirtual 98, 3) := by decide +kernel
theorem dX4_goerHome_7 : decode cX4_goerHome 7 = .ok (.istore 5, 2) := by decide +kernel
theorem dX4_goerHome_9 : decode cX4_goerHome 9 = .ok (.iload_n 2, 1) := by decide +kernel
theorem dX4_goerHome_10 : decode cX4_goerHome 10 = .ok (.iconst 4, 1) := by decide +kernel
theorem dX4_goerHome_11 : decode cX4_goerHome 11 = .ok (.if_icmp .ne 15, 3) := by decide +kernel
theorem dX4_goerHome_14 : decode cX4_goerHome 14 = .ok (.iconst 2, 1) := by decide +kernel
theorem dX4_goerHome_15 : decode cX4_goerHome 15 = .ok (.aload_n 0, 1) := by decide +kernel
theorem dX4_goerHome_16 : decode cX4_goerHome 16 = .ok (.getfield 10, 3) := by decide +kernel
theorem dX4_goerHome_19 : decode cX4_goerHome 19 = .ok (.getfield 182, 3) := by decide +kernel
theorem dX4_goerHome_22 : decode cX4_goerHome 22 = .ok (.imul, 1) := by decide +kernel
theorem dX4_goerHome_23 : decode cX4_goerHome 23 = .ok (.goto 10, 3) := by decide +kernel
theorem dX4_goerHome_26 : decode cX4_goerHome 26 = .ok (.aload_n 0, 1) := by decide +kernel
theorem dX4_goerHome_27 : decode cX4_goerHome 27 = .ok (.getfield 10, 3) := by decide +kernel
theorem dX4_goerHome_30 : decode cX4_goerHome 30 = .ok (.getfield 182, 3) := by decide +kernel
theorem dX4_goerHome_33 : decode cX4_goerHome 33 = .ok (.istore 6, 2) := by decide +kernel
theorem dX4_goerHome_35 : decode cX4_goerHome 35 = .ok (.aload_n 0, 1) := by decide +kernel
theorem dX4_goerHome_36 : decode cX4_goerHome 36 = .ok (.getfield 10, 3) := by decide +kernel
theorem dX4_goerHome_39 : decode cX4_goerHome 39 = .ok (.iload 5, 2) := by decide +kernel
theorem dX4_goerHome_41 : decode cX4_goerHome 41 = .ok (.iload 6, 2) := by decide +kernel
theorem dX4_goerHome_43 : decode cX4_goerHome 43 = .ok (.invokevirtual 203, 3) := by decide +kernel
theorem dX4_goerHome_46 : decode cX4_goerHome 46 = .ok (.istore 7, 2) := by decide +kernel
theorem dX4_goerHome_48 : decode cX4_goerHome 48 = .ok (.iload_n 2, 1) := by decide +kernel
theorem dX4_goerHome_49 : decode cX4_goerHome 49 = .ok (.iconst 2, 1) := by decide +kernel
theorem dX4_goerHome_50 : decode cX4_goerHome 50 = .ok (.if_icmp .eq 13, 3) := by decide +kernel
theorem dX4_goerHome_53 : decode cX4_goerHome 53 = .ok (.iload_n 2, 1) := by decide +kernel
theorem dX4_goerHome_54 : decode cX4_goerHome 54 = .ok (.iconst 3, 1) := by decide +kernel
theorem dX4_goerHome_55 : decode cX4_goerHome 55 = .ok (.if_icmp .eq 8, 3) := by decide +kernel
theorem dX4_goerHome_58 : decode cX4_goerHome 58 = .ok (.iload_n 2, 1) := by decide +kernel
theorem dX4_goerHome_59 : decode cX4_goerHome 59 = .ok (.iconst 5, 1) := by decide +kernel
theorem dX4_goerHome_60 : decode cX4_goerHome 60 = .ok (.if_icmp .ne 13, 3) := by decide +kernel
theorem dX4_goerHome_63 : decode cX4_goerHome 63 = .ok (.aload_n 0, 1) := by decide +kernel
theorem dX4_goerHome_64 : decode cX4_goerHome 64 = .ok (.getfield 10, 3) := by decide +kernel
theorem dX4_goerHome_67 : decode cX4_goerHome 67 = .ok (.getfield 231, 3) := by decide +kernel
theorem dX4_goerHome_70 : decode cX4_goerHome 70 = .ok (.goto 4, 3) := by decide +kernel
theorem dX4_goerHome_73 : decode cX4_goerHome 73 = .ok (.iconst 0, 1) := by decide +kernel
theorem dX4_goerHome_74 : decode cX4_goerHome 74 = .ok (.istore 8, 2) := by decide +kernel
theorem dX4_goerHome_76 : decode cX4_goerHome 76 = .ok (.iconst 0, 1) := by decide +kernel
theorem dX4_goerHome_77 : decode cX4_goerHome 77 = .ok (.istore 9, 2) := by decide +kernel
theorem dX4_goerHome_79 : decode cX4_goerHome 79 = .ok (.iconst 0, 1) := by decide +kernel
theorem dX4_goerHome_80 : decode cX4_goerHome 80 = .ok (.istore 10, 2) := by decide +kernel
theorem dX4_goerHome_82 : decode cX4_goerHome 82 = .ok (.iload 10, 2) := by decide +kernel
theorem dX4_goerHome_84 : decode cX4_goerHome 84 = .ok (.iload 5, 2) := by decide +kernel
theorem dX4_goerHome_86 : decode cX4_goerHome 86 = .ok (.if_icmp .ge 97, 3) := by decide +kernel
theorem dX4_goerHome_89 : decode cX4_goerHome 89 = .ok (.iload 9, 2) := by decide +kernel
theorem dX4_goerHome_91 : decode cX4_goerHome 91 = .ok (.aload_n 0, 1) := by decide +kernel
theorem dX4_goerHome_92 : decode cX4_goerHome 92 = .ok (.iload_n 2, 1) := by decide +kernel
theorem dX4_goerHome_93 : decode cX4_goerHome 93 = .ok (.iload_n 3, 1) := by decide +kernel
theorem dX4_goerHome_94 : decode cX4_goerHome 94 = .ok (.iload 10, 2) := by decide +kernel
theorem dX4_goerHome_96 : decode cX4_goerHome 96 = .ok (.invokevirtual 239, 3) := by decide +kernel
theorem dX4_goerHome_99 : decode cX4_goerHome 99 = .ok (.iadd, 1) := by decide +kernel
theorem dX4_goerHome_100 : decode cX4_goerHome 100 = .ok (.istore 11, 2) := by decide +kernel
theorem dX4_goerHome_102 : decode cX4_goerHome 102 = .ok (.iload 4, 2) := by decide +kernel
theorem dX4_goerHome_104 : decode cX4_goerHome 104 = .ok (.aload_n 1, 1) := by decide +kernel
theorem dX4_goerHome_105 : decode cX4_goerHome 105 = .ok (.iload 10, 2) := by decide +kernel
theorem dX4_goerHome_107 : decode cX4_goerHome 107 = .ok (.invokevirtual 101, 3) := by decide +kernel
theorem dX4_goerHome_110 : decode cX4_goerHome 110 = .ok (.iadd, 1) := by decide +kernel
theorem dX4_goerHome_111 : decode cX4_goerHome 111 = .ok (.istore 12, 2) := by decide +kernel
theorem dX4_goerHome_113 : decode cX4_goerHome 113 = .ok (.iload 4, 2) := by decide +kernel
theorem dX4_goerHome_115 : decode cX4_goerHome 115 = .ok (.bipush 12, 2) := by decide +kernel
theorem dX4_goerHome_117 : decode cX4_goerHome 117 = .ok (.if_icmp .ge 44, 3) := by decide +kernel
theorem dX4_goerHome_120 : decode cX4_goerHome 120 = .ok (.aload_n 1, 1) := by decide +kernel
theorem dX4_goerHome_121 : decode cX4_goerHome 121 = .ok (.iload 10, 2) := by decide +kernel
theorem dX4_goerHome_123 : decode cX4_goerHome 123 = .ok (.iload 5, 2) := by decide +kernel
theorem dX4_goerHome_125 : decode cX4_goerHome 125 = .ok (.invokevirtual 107, 3) := by decide +kernel
theorem dX4_goerHome_128 : decode cX4_goerHome 128 = .ok (.ifCond .eq 33, 3) := by decide +kernel
theorem dX4_goerHome_131 : decode cX4_goerHome 131 = .ok (.iload 12, 2) := by decide +kernel
theorem dX4_goerHome_133 : decode cX4_goerHome 133 = .ok (.iload 9, 2) := by decide +kernel
theorem dX4_goerHome_135 : decode cX4_goerHome 135 = .ok (.if_icmp .lt 26, 3) := by decide +kernel
theorem dX4_goerHome_138 : decode cX4_goerHome 138 = .ok (.iload 12, 2) := by decide +kernel
theorem dX4_goerHome_140 : decode cX4_goerHome 140 = .ok (.iload 11, 2) := by decide +kernel
theorem dX4_goerHome_142 : decode cX4_goerHome 142 = .ok (.iload 8, 2) := by decide +kernel
theorem dX4_goerHome_144 : decode cX4_goerHome 144 = .ok (.iadd, 1) := by decide +kernel
theorem dX4_goerHome_145 : decode cX4_goerHome 145 = .ok (.if_icmp .gt 16, 3) := by decide +kernel
theorem dX4_goerHome_148 : decode cX4_goerHome 148 = .ok (.iload 4, 2) := by decide +kernel
theorem dX4_goerHome_150 : decode cX4_goerHome 150 = .ok (.aload_n 1, 1) := by decide +kernel
theorem dX4_goerHome_151 : decode cX4_goerHome 151 = .ok (.iload 5, 2) := by decide +kernel
theorem dX4_goerHome_153 : decode cX4_goerHome 153 = .ok (.invokevirtual 101, 3) := by decide +kernel
theorem dX4_goerHome_156 : decode cX4_goerHome 156 = .ok (.iadd, 1) := by decide +kernel
theorem dX4_goerHome_157 : decode cX4_goerHome 157 = .ok (.iload 7, 2) := by decide +kernel
theorem dX4_goerHome_159 : decode cX4_goerHome 159 = .ok (.iadd, 1) := by decide +kernel
theorem dX4_goerHome_160 : decode cX4_goerHome 160 = .ok (.ireturn, 1) := by decide +kernel
theorem dX4_goerHome_161 : decode cX4_goerHome 161 = .ok (.iload 11, 2) := by decide +kernel
theorem dX4_goerHome_163 : decode cX4_goerHome 163 = .ok (.aload_n 0, 1) := by decide +kernel
theorem dX4_goerHome_164 : decode cX4_goerHome 164 = .ok (.getfield 10, 3) := by decide +kernel
theorem dX4_goerHome_167 : decode cX4_goerHome 167 = .ok (.iload 10, 2) := by decide +kernel
theorem dX4_goerHome_169 : decode cX4_goerHome 169 = .ok (.iload 6, 2) := by decide +kernel
theorem dX4_goerHome_171 : decode cX4_goerHome 171 = .ok (.invokevirtual 203, 3) := by decide +kernel
theorem dX4_goerHome_174 : decode cX4_goerHome 174 = .ok (.iadd, 1) := by decide +kernel
theorem dX4_goerHome_175 : decode cX4_goerHome 175 = .ok (.istore 9, 2) := by decide +kernel
theorem dX4_goerHome_177 : decode cX4_goerHome 177 = .ok (.iinc 10 1, 3) := by decide +kernel
theorem dX4_goerHome_180 : decode cX4_goerHome 180 = .ok (.goto (-98), 3) := by decide +kernel
theorem dX4_goerHome_183 : decode cX4_goerHome 183 = .ok (.iload 9, 2) := by decide +kernel
theorem dX4_goerHome_185 : decode cX4_goerHome 185 = .ok (.iload 7, 2) := by decide +kernel
theorem dX4_goerHome_187 : decode cX4_goerHome 187 = .ok (.iadd, 1) := by decide +kernel
theorem dX4_goerHome_188 : decode cX4_goerHome 188 = .ok (.ireturn, 1) := by decide +kernel
theorem dX4_waitOf_0 : decode cX4_waitOf 0 = .ok (.iload_n 1, 1) := by decide +kernel
theorem dX4_waitOf_1 : decode cX4_waitOf 1 = .ok (.lookupswitch 73 #[(0, 35), (3, 51), (5, 61)], 35) := by decide +kernel
theorem dX4_waitOf_36 : decode cX4_waitOf 36 = .ok (.iload_n 3, 1) := by decide +kernel
theorem dX4_waitOf_37 : decode cX4_waitOf 37 = .ok (.ifCond .ne 13, 3) := by decide +kernel
theorem dX4_waitOf_40 : decode cX4_waitOf 40 = .ok (.aload_n 0, 1) := by decide +kernel
theorem dX4_waitOf_41 : decode cX4_waitOf 41 = .ok (.getfield 10, 3) := by decide +kernel
theorem dX4_waitOf_44 : decode cX4_waitOf 44 = .ok (.getfield 234, 3) := by decide +kernel
theorem dX4_waitOf_47 : decode cX4_waitOf 47 = .ok (.goto 4, 3) := by decide +kernel
theorem dX4_waitOf_50 : decode cX4_waitOf 50 = .ok (.iconst 0, 1) := by decide +kernel
theorem dX4_waitOf_51 : decode cX4_waitOf 51 = .ok (.ireturn, 1) := by decide +kernel
theorem dX4_waitOf_52 : decode cX4_waitOf 52 = .ok (.iload_n 3, 1) := by decide +kernel
theorem dX4_waitOf_53 : decode cX4_waitOf 53 = .ok (.ifCond .ne 7, 3) := by decide +kernel
theorem dX4_waitOf_56 : decode cX4_waitOf 56 = .ok (.iload_n 2, 1) := by decide +kernel
theorem dX4_waitOf_57 : decode cX4_waitOf 57 = .ok (.goto 4, 3) := by decide +kernel
theorem dX4_waitOf_60 : decode cX4_waitOf 60 = .ok (.iconst 0, 1) := by decide +kernel
theorem dX4_waitOf_61 : decode cX4_waitOf 61 = .ok (.ireturn, 1) := by decide +kernel
theorem dX4_waitOf_62 : decode cX4_waitOf 62 = .ok (.iload_n 3, 1) := by decide +kernel
theorem dX4_waitOf_63 : decode cX4_waitOf 63 = .ok (.ifCond .ne 9, 3) := by decide +kernel
theorem dX4_waitOf_66 : decode cX4_waitOf 66 = .ok (.iconst 2, 1) := by decide +kernel
theorem dX4_waitOf_67 : decode cX4_waitOf 67 = .ok (.iload_n 2, 1) := by decide +kernel
theorem dX4_waitOf_68 : decode cX4_waitOf 68 = .ok (.imul, 1) := by decide +kernel
theorem dX4_waitOf_69 : decode cX4_waitOf 69 = .ok (.goto 4, 3) := by decide +kernel
theorem dX4_waitOf_72 : decode cX4_waitOf 72 = .ok (.iload_n 2, 1) := by decide +kernel
theorem dX4_waitOf_73 : decode cX4_waitOf 73 = .ok (.ireturn, 1) := by decide +kernel
theorem dX4_waitOf_74 : decode cX4_waitOf 74 = .ok (.iconst 0, 1) := by decide +kernel
theorem dX4_waitOf_75 : decode cX4_waitOf 75 = .ok (.ireturn, 1) := by decide +kernel
theorem xiX4_homeSum_X0 : GoodIn wsX4_homeSum wsX00 := goodIn_sub (fun _ h => List.mem_cons_of_mem _ (List.mem_append_left _ (List.mem_append_left _ (List.mem_append_right _ h)))) xgwX0
set_option maxRecDepth 20000 in
theorem ggX4_homeSum_X0_weight : GoodIn wsX4_homeSum wsX0_weight := (goodIn_ca (goodIn_r _ [5, 6, 7] rfl (by decide +kernel)) xiX4_homeSum_X0)
set_option maxRecDepth 20000 in
theorem gX4_homeSum_X0_weight : GoodIn wsX4_homeSum (wsV RX4 104 RX0 yX0_weight wsX0_weight) := goodIn_app (goodIn_r _ [1, 2, 3, 4] rfl (by decide +kernel)) ggX4_homeSum_X0_weight
theorem xiX4_homeSum_X4 : GoodIn wsX4_homeSum wsX40 := goodIn_sub (fun _ h => List.mem_cons_of_mem _ (List.mem_append_left _ (List.mem_append_right _ h))) xgwX4
theorem xiX4_homeSum_X2 : GoodIn wsX4_homeSum wsX20 := goodIn_sub (fun _ h => List.mem_cons_of_mem _ (List.mem_append_right _ h)) xgwX2
set_option maxRecDepth 20000 in
theorem ggX4_homeSum_X4_goerHome : GoodIn wsX4_homeSum wsX4_goerHome := (goodIn_ca (goodIn_ca (goodIn_ca (goodIn_r _ [12, 13, 14, 15, 16, 17, 18, 19, 20, 21, 22, 23, 24, 25, 26, 27, 28, 29, 30, 31, 32, 33, 34, 11, 35, 36, 37, 38, 39, 4, 40, 41, 42, 43, 44, 45, 46] rfl (by decide +kernel)) xiX4_homeSum_X4) xiX4_homeSum_X2) xiX4_homeSum_X0)
set_option maxRecDepth 20000 in
theorem gX4_homeSum_X4_goerHome : GoodIn wsX4_homeSum (wsV RX4 141 RX4 yX4_goerHome wsX4_goerHome) := goodIn_app (goodIn_r _ [8, 9, 10, 11] rfl (by decide +kernel)) ggX4_homeSum_X4_goerHome
theorem dX4_homeSum_0 : decode cX4_homeSum 0 = .ok (.iconst 0, 1) := by decide +kernel
theorem dX4_homeSum_1 : decode cX4_homeSum 1 = .ok (.istore 4, 2) := by decide +kernel
theorem dX4_homeSum_3 : decode cX4_homeSum 3 = .ok (.iconst 0, 1) := by decide +kernel
theorem dX4_homeSum_4 : decode cX4_homeSum 4 = .ok (.istore 5, 2) := by decide +kernel
theorem dX4_homeSum_6 : decode cX4_homeSum 6 = .ok (.iload 5, 2) := by decide +kernel
theorem dX4_homeSum_8 : decode cX4_homeSum 8 = .ok (.bipush 12, 2) := by decide +kernel
theorem dX4_homeSum_10 : decode cX4_homeSum 10 = .ok (.if_icmp .gt 30, 3) := by decide +kernel
theorem dX4_homeSum_13 : decode cX4_homeSum 13 = .ok (.iload 4, 2) := by decide +kernel
theorem dX4_homeSum_15 : decode cX4_homeSum 15 = .ok (.aload_n 1, 1) := by decide +kernel
theorem dX4_homeSum_16 : decode cX4_homeSum 16 = .ok (.iload 5, 2) := by decide +kernel
theorem dX4_homeSum_18 : decode cX4_homeSum 18 = .ok (.invokevirtual 104, 3) := by decide +kernel
theorem dX4_homeSum_21 : decode cX4_homeSum 21 = .ok (.aload_n 0, 1) := by decide +kernel
theorem dX4_homeSum_22 : decode cX4_homeSum 22 = .ok (.aload_n 1, 1) := by decide +kernel
theorem dX4_homeSum_23 : decode cX4_homeSum 23 = .ok (.iload_n 2, 1) := by decide +kernel
theorem dX4_homeSum_24 : decode cX4_homeSum 24 = .ok (.iload_n 3, 1) := by decide +kernel
theorem dX4_homeSum_25 : decode cX4_homeSum 25 = .ok (.iload 5, 2) := by decide +kernel
theorem dX4_homeSum_27 : decode cX4_homeSum 27 = .ok (.invokevirtual 141, 3) := by decide +kernel
theorem dX4_homeSum_30 : decode cX4_homeSum 30 = .ok (.imul, 1) := by decide +kernel
theorem dX4_homeSum_31 : decode cX4_homeSum 31 = .ok (.iadd, 1) := by decide +kernel
theorem dX4_homeSum_32 : decode cX4_homeSum 32 = .ok (.istore 4, 2) := by decide +kernel
theorem dX4_homeSum_34 : decode cX4_homeSum 34 = .ok (.iinc 5 1, 3) := by decide +kernel
theorem dX4_homeSum_37 : decode cX4_homeSum 37 = .ok (.goto (-31), 3) := by decide +kernel
theorem dX4_homeSum_40 : decode cX4_homeSum 40 = .ok (.iload 4, 2) := by decide +kernel
theorem dX4_homeSum_42 : decode cX4_homeSum 42 = .ok (.ireturn, 1) := by decide +kernel
theorem xiX4_informedSum_X2 : GoodIn wsX4_informedSum wsX20 := goodIn_sub (fun _ h => List.mem_cons_of_mem _ (List.mem_append_left _ (List.mem_append_right _ h))) xgwX2
set_option maxRecDepth 20000 in
theorem ggX4_informedSum_X2_walkHome : GoodIn wsX4_informedSum wsX2_walkHome := (goodIn_ca (goodIn_r _ [10, 11, 12, 13, 14, 15, 9, 16, 17, 18, 19, 20, 21, 22] rfl (by decide +kernel)) xiX4_informedSum_X2)
set_option maxRecDepth 20000 in
theorem gX4_informedSum_X2_walkHome : GoodIn wsX4_informedSum (wsV RX4 73 RX2 yX2_walkHome wsX2_walkHome) := goodIn_app (goodIn_r _ [6, 7, 8, 9] rfl (by decide +kernel)) ggX4_informedSum_X2_walkHome
theorem xiX4_informedSum_X0 : GoodIn wsX4_informedSum wsX00 := goodIn_sub (fun _ h => List.mem_cons_of_mem _ (List.mem_append_right _ h)) xgwX0
set_option maxRecDepth 20000 in
theorem ggX4_informedSum_X0_weight : GoodIn wsX4_informedSum wsX0_weight := (goodIn_ca (goodIn_r _ [27, 28, 29] rfl (by decide +kernel)) xiX4_informedSum_X0)
set_option maxRecDepth 20000 in
theorem gX4_informedSum_X0_weight : GoodIn wsX4_informedSum (wsV RX4 104 RX0 yX0_weight wsX0_weight) := goodIn_app (goodIn_r _ [23, 24, 25, 26] rfl (by decide +kernel)) ggX4_informedSum_X0_weight
set_option maxRecDepth 20000 in
theorem ggX4_informedSum_X2_rideHome : GoodIn wsX4_informedSum wsX2_rideHome := (goodIn_ca (goodIn_ca (goodIn_r _ [33, 12, 34, 35, 36, 9, 37, 11, 38, 39, 40, 26, 41, 42, 43, 13, 14, 15, 16, 17, 18, 19, 20, 21, 22] rfl (by decide +kernel)) xiX4_informedSum_X2) xiX4_informedSum_X0)
set_option maxRecDepth 20000 in
theorem gX4_informedSum_X2_rideHome : GoodIn wsX4_informedSum (wsV RX4 242 RX2 yX2_rideHome wsX2_rideHome) := goodIn_app (goodIn_r _ [30, 31, 32, 9] rfl (by decide +kernel)) ggX4_informedSum_X2_rideHome
theorem dX4_informedSum_0 : decode cX4_informedSum 0 = .ok (.aload_n 0, 1) := by decide +kernel
theorem dX4_informedSum_1 : decode cX4_informedSum 1 = .ok (.getfield 10, 3) := by decide +kernel
theorem dX4_informedSum_4 : decode cX4_informedSum 4 = .ok (.iconst 0, 1) := by decide +kernel
theorem dX4_informedSum_5 : decode cX4_informedSum 5 = .ok (.invokevirtual 73, 3) := by decide +kernel
theorem dX4_informedSum_8 : decode cX4_informedSum 8 = .ok (.istore_n 2, 1) := by decide +kernel
theorem dX4_informedSum_9 : decode cX4_informedSum 9 = .ok (.aload_n 1, 1) := by decide +kernel
theorem dX4_informedSum_10 : decode cX4_informedSum 10 = .ok (.bipush 12, 2) := by decide +kernel
theorem dX4_informedSum_12 : decode cX4_informedSum 12 = .ok (.invokevirtual 104, 3) := by decide +kernel
theorem dX4_informedSum_15 : decode cX4_informedSum 15 = .ok (.iload_n 2, 1) := by decide +kernel
theorem dX4_informedSum_16 : decode cX4_informedSum 16 = .ok (.imul, 1) := by decide +kernel
theorem dX4_informedSum_17 : decode cX4_informedSum 17 = .ok (.istore_n 3, 1) := by decide +kernel
theorem dX4_informedSum_18 : decode cX4_informedSum 18 = .ok (.iconst 0, 1) := by decide +kernel
theorem dX4_informedSum_19 : decode cX4_informedSum 19 = .ok (.istore 4, 2) := by decide +kernel
theorem dX4_informedSum_21 : decode cX4_informedSum 21 = .ok (.iload 4, 2) := by decide +kernel
theorem dX4_informedSum_23 : decode cX4_informedSum 23 = .ok (.bipush 12, 2) := by decide +kernel
theorem dX4_informedSum_25 : decode cX4_informedSum 25 = .ok (.if_icmp .ge 34, 3) := by decide +kernel
theorem dX4_informedSum_28 : decode cX4_informedSum 28 = .ok (.iload_n 3, 1) := by decide +kernel
theorem dX4_informedSum_29 : decode cX4_informedSum 29 = .ok (.aload_n 1, 1) := by decide +kernel
theorem dX4_informedSum_30 : decode cX4_informedSum 30 = .ok (.iload 4, 2) := by decide +kernel
theorem dX4_informedSum_32 : decode cX4_informedSum 32 = .ok (.invokevirtual 104, 3) := by decide +kernel
theorem dX4_informedSum_35 : decode cX4_informedSum 35 = .ok (.iload_n 2, 1) := by decide +kernel
theorem dX4_informedSum_36 : decode cX4_informedSum 36 = .ok (.iload 4, 2) := by decide +kernel
theorem dX4_informedSum_38 : decode cX4_informedSum 38 = .ok (.aload_n 0, 1) := by decide +kernel
theorem dX4_informedSum_39 : decode cX4_informedSum 39 = .ok (.getfield 10, 3) := by decide +kernel
theorem dX4_informedSum_42 : decode cX4_informedSum 42 = .ok (.aload_n 1, 1) := by decide +kernel
theorem dX4_informedSum_43 : decode cX4_informedSum 43 = .ok (.invokevirtual 242, 3) := by decide +kernel
theorem dX4_informedSum_46 : decode cX4_informedSum 46 = .ok (.iadd, 1) := by decide +kernel
theorem dX4_informedSum_47 : decode cX4_informedSum 47 = .ok (.invokestatic 188, 3) := by decide +kernel
theorem dX4_informedSum_50 : decode cX4_informedSum 50 = .ok (.imul, 1) := by decide +kernel
theorem dX4_informedSum_51 : decode cX4_informedSum 51 = .ok (.iadd, 1) := by decide +kernel
theorem dX4_informedSum_52 : decode cX4_informedSum 52 = .ok (.istore_n 3, 1) := by decide +kernel
theorem dX4_informedSum_53 : decode cX4_informedSum 53 = .ok (.iinc 4 1, 3) := by decide +kernel
theorem dX4_informedSum_56 : decode cX4_informedSum 56 = .ok (.goto (-35), 3) := by decide +kernel
theorem dX4_informedSum_59 : decode cX4_informedSum 59 = .ok (.iload_n 3, 1) := by decide +kernel
theorem dX4_informedSum_60 : decode cX4_informedSum 60 = .ok (.ireturn, 1) := by decide +kernel
theorem xiX4_planOf_X1 : GoodIn wsX4_planOf wsX10 := goodIn_sub (fun _ h => List.mem_cons_of_mem _ (List.mem_append_left _ (List.mem_append_right _ h))) xgwX1
theorem xiX4_planOf_X2 : GoodIn wsX4_planOf wsX20 := goodIn_sub (fun _ h => List.mem_cons_of_mem _ (List.mem_append_left _ (List.mem_append_left _ (List.mem_append_right _ h)))) xgwX2
theorem xiX4_planOf_X0 : GoodIn wsX4_planOf wsX00 := goodIn_sub (fun _ h => List.mem_cons_of_mem _ (List.mem_append_right _ h)) xgwX0
set_option maxRecDepth 20000 in
theorem ggX4_planOf_X1_make : GoodIn wsX4_planOf wsX1_make := (goodIn_ca (goodIn_ca (goodIn_ca (goodIn_r _ [9, 10, 11, 12, 13, 14, 15, 16, 17, 18, 19, 20, 21, 22, 23, 24, 25, 26, 27, 28, 29, 30, 31, 32, 33, 34, 35, 36, 37, 38, 39, 40, 41, 42, 43, 44, 45, 46, 47, 48, 49, 50, 51, 52, 53, 54, 55, 56, 57, 58, 59, 60, 61, 62, 63, 64, 65, 66, 67, 68, 69, 70, 71, 8, 72, 73, 74, 75, 76, 77, 78, 79, 80, 81, 82, 83, 84, 85, 86, 87, 88, 89, 90, 91, 92, 93, 94] rfl (by decide +kernel)) xiX4_planOf_X1) xiX4_planOf_X2) xiX4_planOf_X0)
set_option maxRecDepth 20000 in
theorem gX4_planOf_X1_make : GoodIn wsX4_planOf (wsV RX4 245 RX1 yX1_make wsX1_make) := goodIn_app (goodIn_r _ [5, 6, 7, 8] rfl (by decide +kernel)) ggX4_planOf_X1_make
theorem dX4_planOf_0 : decode cX4_planOf 0 = .ok (.aload_n 0, 1) := by decide +kernel
theorem dX4_planOf_1 : decode cX4_planOf 1 = .ok (.getfield 43, 3) := by decide +kernel
theorem dX4_planOf_4 : decode cX4_planOf 4 = .ok (.iload_n 1, 1) := by decide +kernel
theorem dX4_planOf_5 : decode cX4_planOf 5 = .ok (.if_icmp .eq 28, 3) := by decide +kernel
theorem dX4_planOf_8 : decode cX4_planOf 8 = .ok (.aload_n 0, 1) := by decide +kernel
theorem dX4_planOf_9 : decode cX4_planOf 9 = .ok (.getfield 25, 3) := by decide +kernel
theorem dX4_planOf_12 : decode cX4_planOf 12 = .ok (.aload_n 0, 1) := by decide +kernel
theorem dX4_planOf_13 : decode cX4_planOf 13 = .ok (.getfield 10, 3) := by decide +kernel
theorem dX4_planOf_16 : decode cX4_planOf 16 = .ok (.aload_n 0, 1) := by decide +kernel
theorem dX4_planOf_17 : decode cX4_planOf 17 = .ok (.getfield 10, 3) := by decide +kernel
theorem dX4_planOf_20 : decode cX4_planOf 20 = .ok (.getfield 79, 3) := by decide +kernel
theorem dX4_planOf_23 : decode cX4_planOf 23 = .ok (.iload_n 1, 1) := by decide +kernel
theorem dX4_planOf_24 : decode cX4_planOf 24 = .ok (.aaload, 1) := by decide +kernel
theorem dX4_planOf_25 : decode cX4_planOf 25 = .ok (.invokevirtual 245, 3) := by decide +kernel
theorem dX4_planOf_28 : decode cX4_planOf 28 = .ok (.aload_n 0, 1) := by decide +kernel
theorem dX4_planOf_29 : decode cX4_planOf 29 = .ok (.iload_n 1, 1) := by decide +kernel
theorem dX4_planOf_30 : decode cX4_planOf 30 = .ok (.putfield 43, 3) := by decide +kernel
theorem dX4_planOf_33 : decode cX4_planOf 33 = .ok (.aload_n 0, 1) := by decide +kernel
theorem dX4_planOf_34 : decode cX4_planOf 34 = .ok (.getfield 25, 3) := by decide +kernel
theorem dX4_planOf_37 : decode cX4_planOf 37 = .ok (.areturn, 1) := by decide +kernel
theorem xiX4_pairMean_X0 : GoodIn wsX4_pairMean wsX00 := goodIn_sub (fun _ h => List.mem_cons_of_mem _ (List.mem_append_right _ h)) xgwX0
set_option maxRecDepth 20000 in
theorem ggX4_pairMean_X0_total : GoodIn wsX4_pairMean wsX0_total := (goodIn_ca (goodIn_r _ [7, 8, 9, 10, 11, 6, 12, 13] rfl (by decide +kernel)) xiX4_pairMean_X0)
set_option maxRecDepth 20000 in
theorem gX4_pairMean_X0_total : GoodIn wsX4_pairMean (wsV RX4 94 RX0 yX0_total wsX0_total) := goodIn_app (goodIn_r _ [3, 4, 5, 6] rfl (by decide +kernel)) ggX4_pairMean_X0_total
theorem xiX4_pairMean_X4 : GoodIn wsX4_pairMean wsX40 := goodIn_sub (fun _ h => List.mem_cons_of_mem _ (List.mem_append_left _ (List.mem_append_left _ (List.mem_append_right _ h)))) xgwX4
theorem xiX4_pairMean_X2 : GoodIn wsX4_pairMean wsX20 := goodIn_sub (fun _ h => List.mem_cons_of_mem _ (List.mem_append_left _ (List.mem_append_right _ h))) xgwX2
set_option maxRecDepth 20000 in
theorem ggX4_pairMean_X4_pairSum : GoodIn wsX4_pairMean wsX4_pairSum := (goodIn_ca (goodIn_ca (goodIn_ca (goodIn_r _ [18, 1, 2, 19, 20, 21, 22, 23, 24, 25, 26, 27, 28, 29, 30, 31, 32, 6, 33, 34, 35, 36, 37, 38, 39, 40, 41, 42, 43, 44, 45, 46, 47, 48, 49, 8, 13, 50, 51, 52, 17, 53, 54, 55, 56, 57, 58, 59, 60, 61, 62, 63] rfl (by decide +kernel)) xiX4_pairMean_X4) xiX4_pairMean_X2) xiX4_pairMean_X0)
set_option maxRecDepth 20000 in
theorem gX4_pairMean_X4_pairSum : GoodIn wsX4_pairMean (wsV RX4 178 RX4 yX4_pairSum wsX4_pairSum) := goodIn_app (goodIn_r _ [14, 15, 16, 17] rfl (by decide +kernel)) ggX4_pairMean_X4_pairSum
set_option maxRecDepth 20000 in
theorem ggX4_pairMean_X4_fraction : GoodIn wsX4_pairMean wsX4_fraction := goodIn_r _ [66] rfl (by decide +kernel)
set_option maxRecDepth 20000 in
theorem gX4_pairMean_X4_fraction : GoodIn wsX4_pairMean (va_wsS RX4 133 yX4_fraction wsX4_fraction) := goodIn_app (goodIn_r _ [64, 65, 17] rfl (by decide +kernel)) ggX4_pairMean_X4_fraction
theorem dX4_pairMean_0 : decode cX4_pairMean 0 = .ok (.aload_n 0, 1) := by decide +kernel
theorem dX4_pairMean_1 : decode cX4_pairMean 1 = .ok (.getfield 10, 3) := by decide +kernel
theorem dX4_pairMean_4 : decode cX4_pairMean 4 = .ok (.getfield 79, 3) := by decide +kernel
theorem dX4_pairMean_7 : decode cX4_pairMean 7 = .ok (.iload_n 1, 1) := by decide +kernel
theorem dX4_pairMean_8 : decode cX4_pairMean 8 = .ok (.aaload, 1) := by decide +kernel
theorem dX4_pairMean_9 : decode cX4_pairMean 9 = .ok (.invokevirtual 94, 3) := by decide +kernel
theorem dX4_pairMean_12 : decode cX4_pairMean 12 = .ok (.aload_n 0, 1) := by decide +kernel
theorem dX4_pairMean_13 : decode cX4_pairMean 13 = .ok (.getfield 10, 3) := by decide +kernel
theorem dX4_pairMean_16 : decode cX4_pairMean 16 = .ok (.getfield 79, 3) := by decide +kernel
theorem dX4_pairMean_19 : decode cX4_pairMean 19 = .ok (.iload_n 2, 1) := by decide +kernel
theorem dX4_pairMean_20 : decode cX4_pairMean 20 = .ok (.aaload, 1) := by decide +kernel
theorem dX4_pairMean_21 : decode cX4_pairMean 21 = .ok (.invokevirtual 94, 3) := by decide +kernel
theorem dX4_pairMean_24 : decode cX4_pairMean 24 = .ok (.imul, 1) := by decide +kernel
theorem dX4_pairMean_25 : decode cX4_pairMean 25 = .ok (.istore 5, 2) := by decide +kernel
theorem dX4_pairMean_27 : decode cX4_pairMean 27 = .ok (.aload_n 0, 1) := by decide +kernel
theorem dX4_pairMean_28 : decode cX4_pairMean 28 = .ok (.iload_n 1, 1) := by decide +kernel
theorem dX4_pairMean_29 : decode cX4_pairMean 29 = .ok (.iload_n 2, 1) := by decide +kernel
theorem dX4_pairMean_30 : decode cX4_pairMean 30 = .ok (.iload_n 3, 1) := by decide +kernel
theorem dX4_pairMean_31 : decode cX4_pairMean 31 = .ok (.invokevirtual 178, 3) := by decide +kernel
theorem dX4_pairMean_34 : decode cX4_pairMean 34 = .ok (.iload 5, 2) := by decide +kernel
theorem dX4_pairMean_36 : decode cX4_pairMean 36 = .ok (.iload 4, 2) := by decide +kernel
theorem dX4_pairMean_38 : decode cX4_pairMean 38 = .ok (.invokestatic 133, 3) := by decide +kernel
theorem dX4_pairMean_41 : decode cX4_pairMean 41 = .ok (.lreturn, 1) := by decide +kernel
theorem xiX4_pairSum_X2 : GoodIn wsX4_pairSum wsX20 := goodIn_sub (fun _ h => List.mem_cons_of_mem _ (List.mem_append_left _ (List.mem_append_right _ h))) xgwX2
theorem xiX4_pairSum_X0 : GoodIn wsX4_pairSum wsX00 := goodIn_sub (fun _ h => List.mem_cons_of_mem _ (List.mem_append_right _ h)) xgwX0
set_option maxRecDepth 20000 in
theorem ggX4_pairSum_X2_rideHome : GoodIn wsX4_pairSum wsX2_rideHome := (goodIn_ca (goodIn_ca (goodIn_r _ [7, 8, 9, 10, 11, 6, 12, 13, 14, 15, 16, 17, 18, 19, 20, 21, 22, 23, 24, 25, 26, 27, 28, 29, 30] rfl (by decide +kernel)) xiX4_pairSum_X2) xiX4_pairSum_X0)
set_option maxRecDepth 20000 in
theorem gX4_pairSum_X2_rideHome : GoodIn wsX4_pairSum (wsV RX4 242 RX2 yX2_rideHome wsX2_rideHome) := goodIn_app (goodIn_r _ [3, 4, 5, 6] rfl (by decide +kernel)) ggX4_pairSum_X2_rideHome
set_option maxRecDepth 20000 in
theorem ggX4_pairSum_X0_weight : GoodIn wsX4_pairSum wsX0_weight := (goodIn_ca (goodIn_r _ [34, 35, 36] rfl (by decide +kernel)) xiX4_pairSum_X0)
set_option maxRecDepth 20000 in
theorem gX4_pairSum_X0_weight : GoodIn wsX4_pairSum (wsV RX4 104 RX0 yX0_weight wsX0_weight) := goodIn_app (goodIn_r _ [31, 32, 33, 17] rfl (by decide +kernel)) ggX4_pairSum_X0_weight
theorem xiX4_pairSum_X4 : GoodIn wsX4_pairSum wsX40 := goodIn_sub (fun _ h => List.mem_cons_of_mem _ (List.mem_append_left _ (List.mem_append_left _ (List.mem_append_right _ h)))) xgwX4
set_option maxRecDepth 20000 in
theorem ggX4_pairSum_X4_pairHome : GoodIn wsX4_pairSum wsX4_pairHome := (goodIn_ca (goodIn_ca (goodIn_r _ [41, 1, 42, 43, 44, 45, 46, 47, 10, 11, 6, 12, 13, 48, 49, 50, 51, 8, 21, 22, 23, 24, 25, 26, 27, 28, 29, 30] rfl (by decide +kernel)) xiX4_pairSum_X4) xiX4_pairSum_X2)
set_option maxRecDepth 20000 in
theorem gX4_pairSum_X4_pairHome : GoodIn wsX4_pairSum (wsV RX4 249 RX4 yX4_pairHome wsX4_pairHome) := goodIn_app (goodIn_r _ [37, 38, 39, 40] rfl (by decide +kernel)) ggX4_pairSum_X4_pairHome
theorem dX4_pairSum_0 : decode cX4_pairSum 0 = .ok (.aload_n 0, 1) := by decide +kernel
theorem dX4_pairSum_1 : decode cX4_pairSum 1 = .ok (.getfield 10, 3) := by decide +kernel
theorem dX4_pairSum_4 : decode cX4_pairSum 4 = .ok (.getfield 79, 3) := by decide +kernel
theorem dX4_pairSum_7 : decode cX4_pairSum 7 = .ok (.iload_n 1, 1) := by decide +kernel
theorem dX4_pairSum_8 : decode cX4_pairSum 8 = .ok (.aaload, 1) := by decide +kernel
theorem dX4_pairSum_9 : decode cX4_pairSum 9 = .ok (.astore 4, 2) := by decide +kernel
theorem dX4_pairSum_11 : decode cX4_pairSum 11 = .ok (.aload_n 0, 1) := by decide +kernel
theorem dX4_pairSum_12 : decode cX4_pairSum 12 = .ok (.getfield 10, 3) := by decide +kernel
theorem dX4_pairSum_15 : decode cX4_pairSum 15 = .ok (.getfield 79, 3) := by decide +kernel
theorem dX4_pairSum_18 : decode cX4_pairSum 18 = .ok (.iload_n 2, 1) := by decide +kernel
theorem dX4_pairSum_19 : decode cX4_pairSum 19 = .ok (.aaload, 1) := by decide +kernel
theorem dX4_pairSum_20 : decode cX4_pairSum 20 = .ok (.astore 5, 2) := by decide +kernel
theorem dX4_pairSum_22 : decode cX4_pairSum 22 = .ok (.aload_n 0, 1) := by decide +kernel
theorem dX4_pairSum_23 : decode cX4_pairSum 23 = .ok (.getfield 10, 3) := by decide +kernel
theorem dX4_pairSum_26 : decode cX4_pairSum 26 = .ok (.aload 4, 2) := by decide +kernel
theorem dX4_pairSum_28 : decode cX4_pairSum 28 = .ok (.invokevirtual 242, 3) := by decide +kernel
theorem dX4_pairSum_31 : decode cX4_pairSum 31 = .ok (.istore 6, 2) := by decide +kernel
theorem dX4_pairSum_33 : decode cX4_pairSum 33 = .ok (.aload_n 0, 1) := by decide +kernel
theorem dX4_pairSum_34 : decode cX4_pairSum 34 = .ok (.getfield 10, 3) := by decide +kernel
theorem dX4_pairSum_37 : decode cX4_pairSum 37 = .ok (.aload 5, 2) := by decide +kernel
theorem dX4_pairSum_39 : decode cX4_pairSum 39 = .ok (.invokevirtual 242, 3) := by decide +kernel
theorem dX4_pairSum_42 : decode cX4_pairSum 42 = .ok (.istore 7, 2) := by decide +kernel
theorem dX4_pairSum_44 : decode cX4_pairSum 44 = .ok (.iconst 0, 1) := by decide +kernel
theorem dX4_pairSum_45 : decode cX4_pairSum 45 = .ok (.istore 8, 2) := by decide +kernel
theorem dX4_pairSum_47 : decode cX4_pairSum 47 = .ok (.iconst 0, 1) := by decide +kernel
theorem dX4_pairSum_48 : decode cX4_pairSum 48 = .ok (.istore 9, 2) := by decide +kernel
theorem dX4_pairSum_50 : decode cX4_pairSum 50 = .ok (.iload 9, 2) := by decide +kernel
theorem dX4_pairSum_52 : decode cX4_pairSum 52 = .ok (.bipush 12, 2) := by decide +kernel
theorem dX4_pairSum_54 : decode cX4_pairSum 54 = .ok (.if_icmp .gt 82, 3) := by decide +kernel
theorem dX4_pairSum_57 : decode cX4_pairSum 57 = .ok (.aload 4, 2) := by decide +kernel
theorem dX4_pairSum_59 : decode cX4_pairSum 59 = .ok (.iload 9, 2) := by decide +kernel
theorem dX4_pairSum_61 : decode cX4_pairSum 61 = .ok (.invokevirtual 104, 3) := by decide +kernel
theorem dX4_pairSum_64 : decode cX4_pairSum 64 = .ok (.istore 10, 2) := by decide +kernel
theorem dX4_pairSum_66 : decode cX4_pairSum 66 = .ok (.iconst 0, 1) := by decide +kernel
theorem dX4_pairSum_67 : decode cX4_pairSum 67 = .ok (.istore 11, 2) := by decide +kernel
theorem dX4_pairSum_69 : decode cX4_pairSum 69 = .ok (.iload 11, 2) := by decide +kernel
theorem dX4_pairSum_71 : decode cX4_pairSum 71 = .ok (.bipush 12, 2) := by decide +kernel
theorem dX4_pairSum_73 : decode cX4_pairSum 73 = .ok (.if_icmp .gt 57, 3) := by decide +kernel
theorem dX4_pairSum_76 : decode cX4_pairSum 76 = .ok (.iload 10, 2) := by decide +kernel
theorem dX4_pairSum_78 : decode cX4_pairSum 78 = .ok (.ifCond .le 52, 3) := by decide +kernel
theorem dX4_pairSum_81 : decode cX4_pairSum 81 = .ok (.iload 11, 2) := by decide +kernel
theorem dX4_pairSum_83 : decode cX4_pairSum 83 = .ok (.iload_n 3, 1) := by decide +kernel
theorem dX4_pairSum_84 : decode cX4_pairSum 84 = .ok (.if_icmp .ge 8, 3) := by decide +kernel
theorem dX4_pairSum_87 : decode cX4_pairSum 87 = .ok (.bipush 12, 2) := by decide +kernel
theorem dX4_pairSum_89 : decode cX4_pairSum 89 = .ok (.goto 5, 3) := by decide +kernel
theorem dX4_pairSum_92 : decode cX4_pairSum 92 = .ok (.iload 11, 2) := by decide +kernel
theorem dX4_pairSum_94 : decode cX4_pairSum 94 = .ok (.istore 12, 2) := by decide +kernel
theorem dX4_pairSum_96 : decode cX4_pairSum 96 = .ok (.iload 8, 2) := by decide +kernel
theorem dX4_pairSum_98 : decode cX4_pairSum 98 = .ok (.iload 10, 2) := by decide +kernel
theorem dX4_pairSum_100 : decode cX4_pairSum 100 = .ok (.aload 5, 2) := by decide +kernel
theorem dX4_pairSum_102 : decode cX4_pairSum 102 = .ok (.iload 11, 2) := by decide +kernel
theorem dX4_pairSum_104 : decode cX4_pairSum 104 = .ok (.invokevirtual 104, 3) := by decide +kernel
theorem dX4_pairSum_107 : decode cX4_pairSum 107 = .ok (.imul, 1) := by decide +kernel
theorem dX4_pairSum_108 : decode cX4_pairSum 108 = .ok (.aload_n 0, 1) := by decide +kernel
theorem dX4_pairSum_109 : decode cX4_pairSum 109 = .ok (.iload 9, 2) := by decide +kernel
theorem dX4_pairSum_111 : decode cX4_pairSum 111 = .ok (.iload 6, 2) := by decide +kernel
theorem dX4_pairSum_113 : decode cX4_pairSum 113 = .ok (.iload 12, 2) := by decide +kernel
theorem dX4_pairSum_115 : decode cX4_pairSum 115 = .ok (.iload 7, 2) := by decide +kernel
theorem dX4_pairSum_117 : decode cX4_pairSum 117 = .ok (.invokevirtual 249, 3) := by decide +kernel
theorem dX4_pairSum_120 : decode cX4_pairSum 120 = .ok (.imul, 1) := by decide +kernel
theorem dX4_pairSum_121 : decode cX4_pairSum 121 = .ok (.iadd, 1) := by decide +kernel
theorem dX4_pairSum_122 : decode cX4_pairSum 122 = .ok (.istore 8, 2) := by decide +kernel
theorem dX4_pairSum_124 : decode cX4_pairSum 124 = .ok (.iinc 11 1, 3) := by decide +kernel
theorem dX4_pairSum_127 : decode cX4_pairSum 127 = .ok (.goto (-58), 3) := by decide +kernel
theorem dX4_pairSum_130 : decode cX4_pairSum 130 = .ok (.iinc 9 1, 3) := by decide +kernel
theorem dX4_pairSum_133 : decode cX4_pairSum 133 = .ok (.goto (-83), 3) := by decide +kernel
theorem dX4_pairSum_136 : decode cX4_pairSum 136 = .ok (.iload 8, 2) := by decide +kernel
theorem dX4_pairSum_138 : decode cX4_pairSum 138 = .ok (.ireturn, 1) := by decide +kernel
theorem xiX4_pairHome_X2 : GoodIn wsX4_pairHome wsX20 := goodIn_sub (fun _ h => List.mem_cons_of_mem _ (List.mem_append_right _ h)) xgwX2
set_option maxRecDepth 20000 in
theorem ggX4_pairHome_X2_last : GoodIn wsX4_pairHome wsX2_last := (goodIn_ca (goodIn_r _ [11, 12] rfl (by decide +kernel)) xiX4_pairHome_X2)
set_option maxRecDepth 20000 in
theorem gX4_pairHome_X2_last : GoodIn wsX4_pairHome (wsV RX4 98 RX2 yX2_last wsX2_last) := goodIn_app (goodIn_r _ [7, 8, 9, 10] rfl (by decide +kernel)) ggX4_pairHome_X2_last
set_option maxRecDepth 20000 in
theorem ggX4_pairHome_X2_walkHome : GoodIn wsX4_pairHome wsX2_walkHome := (goodIn_ca (goodIn_r _ [16, 12, 17, 18, 19, 20, 10, 21, 22, 23, 24, 25, 26, 27] rfl (by decide +kernel)) xiX4_pairHome_X2)
set_option maxRecDepth 20000 in
theorem gX4_pairHome_X2_walkHome : GoodIn wsX4_pairHome (wsV RX4 73 RX2 yX2_walkHome wsX2_walkHome) := goodIn_app (goodIn_r _ [13, 14, 15, 10] rfl (by decide +kernel)) ggX4_pairHome_X2_walkHome
theorem dX4_pairHome_0 : decode cX4_pairHome 0 = .ok (.aload_n 0, 1) := by decide +kernel
theorem dX4_pairHome_1 : decode cX4_pairHome 1 = .ok (.getfield 10, 3) := by decide +kernel
theorem dX4_pairHome_4 : decode cX4_pairHome 4 = .ok (.invokevirtual 98, 3) := by decide +kernel
theorem dX4_pairHome_7 : decode cX4_pairHome 7 = .ok (.ifCond .ne 12, 3) := by decide +kernel
theorem dX4_pairHome_10 : decode cX4_pairHome 10 = .ok (.aload_n 0, 1) := by decide +kernel
theorem dX4_pairHome_11 : decode cX4_pairHome 11 = .ok (.getfield 10, 3) := by decide +kernel
theorem dX4_pairHome_14 : decode cX4_pairHome 14 = .ok (.iconst 0, 1) := by decide +kernel
theorem dX4_pairHome_15 : decode cX4_pairHome 15 = .ok (.invokevirtual 73, 3) := by decide +kernel
theorem dX4_pairHome_18 : decode cX4_pairHome 18 = .ok (.ireturn, 1) := by decide +kernel
theorem dX4_pairHome_19 : decode cX4_pairHome 19 = .ok (.iload_n 1, 1) := by decide +kernel
theorem dX4_pairHome_20 : decode cX4_pairHome 20 = .ok (.bipush 12, 2) := by decide +kernel
theorem dX4_pairHome_22 : decode cX4_pairHome 22 = .ok (.if_icmp .ne 26, 3) := by decide +kernel
theorem dX4_pairHome_25 : decode cX4_pairHome 25 = .ok (.iload_n 3, 1) := by decide +kernel
theorem dX4_pairHome_26 : decode cX4_pairHome 26 = .ok (.bipush 12, 2) := by decide +kernel
theorem dX4_pairHome_28 : decode cX4_pairHome 28 = .ok (.if_icmp .ne 20, 3) := by decide +kernel
theorem dX4_pairHome_31 : decode cX4_pairHome 31 = .ok (.aload_n 0, 1) := by decide +kernel
theorem dX4_pairHome_32 : decode cX4_pairHome 32 = .ok (.getfield 10, 3) := by decide +kernel
theorem dX4_pairHome_35 : decode cX4_pairHome 35 = .ok (.getfield 234, 3) := by decide +kernel
theorem dX4_pairHome_38 : decode cX4_pairHome 38 = .ok (.aload_n 0, 1) := by decide +kernel
theorem dX4_pairHome_39 : decode cX4_pairHome 39 = .ok (.getfield 10, 3) := by decide +kernel
theorem dX4_pairHome_42 : decode cX4_pairHome 42 = .ok (.iconst 0, 1) := by decide +kernel
theorem dX4_pairHome_43 : decode cX4_pairHome 43 = .ok (.invokevirtual 73, 3) := by decide +kernel
theorem dX4_pairHome_46 : decode cX4_pairHome 46 = .ok (.iadd, 1) := by decide +kernel
theorem dX4_pairHome_47 : decode cX4_pairHome 47 = .ok (.ireturn, 1) := by decide +kernel
theorem dX4_pairHome_48 : decode cX4_pairHome 48 = .ok (.iload_n 1, 1) := by decide +kernel
theorem dX4_pairHome_49 : decode cX4_pairHome 49 = .ok (.iload_n 3, 1) := by decide +kernel
theorem dX4_pairHome_50 : decode cX4_pairHome 50 = .ok (.if_icmp .ne 12, 3) := by decide +kernel
theorem dX4_pairHome_53 : decode cX4_pairHome 53 = .ok (.iload_n 1, 1) := by decide +kernel
theorem dX4_pairHome_54 : decode cX4_pairHome 54 = .ok (.iload_n 2, 1) := by decide +kernel
theorem dX4_pairHome_55 : decode cX4_pairHome 55 = .ok (.iload 4, 2) := by decide +kernel
theorem dX4_pairHome_57 : decode cX4_pairHome 57 = .ok (.invokestatic 188, 3) := by decide +kernel
theorem dX4_pairHome_60 : decode cX4_pairHome 60 = .ok (.iadd, 1) := by decide +kernel
theorem dX4_pairHome_61 : decode cX4_pairHome 61 = .ok (.ireturn, 1) := by decide +kernel
theorem dX4_pairHome_62 : decode cX4_pairHome 62 = .ok (.iload_n 1, 1) := by decide +kernel
theorem dX4_pairHome_63 : decode cX4_pairHome 63 = .ok (.iload_n 3, 1) := by decide +kernel
theorem dX4_pairHome_64 : decode cX4_pairHome 64 = .ok (.if_icmp .ge 9, 3) := by decide +kernel
theorem dX4_pairHome_67 : decode cX4_pairHome 67 = .ok (.iload_n 1, 1) := by decide +kernel
theorem dX4_pairHome_68 : decode cX4_pairHome 68 = .ok (.iload_n 2, 1) := by decide +kernel
theorem dX4_pairHome_69 : decode cX4_pairHome 69 = .ok (.iadd, 1) := by decide +kernel
theorem dX4_pairHome_70 : decode cX4_pairHome 70 = .ok (.goto 7, 3) := by decide +kernel
theorem dX4_pairHome_73 : decode cX4_pairHome 73 = .ok (.iload_n 3, 1) := by decide +kernel
theorem dX4_pairHome_74 : decode cX4_pairHome 74 = .ok (.iload 4, 2) := by decide +kernel
theorem dX4_pairHome_76 : decode cX4_pairHome 76 = .ok (.iadd, 1) := by decide +kernel
theorem dX4_pairHome_77 : decode cX4_pairHome 77 = .ok (.ireturn, 1) := by decide +kernel
theorem xiX4_goneUnseen_X2 : GoodIn wsX4_goneUnseen wsX20 := goodIn_sub (fun _ h => List.mem_cons_of_mem _ (List.mem_append_left _ (List.mem_append_right _ h))) xgwX2
set_option maxRecDepth 20000 in
theorem ggX4_goneUnseen_X2_last : GoodIn wsX4_goneUnseen wsX2_last := (goodIn_ca (goodIn_r _ [6, 7] rfl (by decide +kernel)) xiX4_goneUnseen_X2)
set_option maxRecDepth 20000 in
theorem gX4_goneUnseen_X2_last : GoodIn wsX4_goneUnseen (wsV RX4 98 RX2 yX2_last wsX2_last) := goodIn_app (goodIn_r _ [2, 3, 4, 5] rfl (by decide +kernel)) ggX4_goneUnseen_X2_last
theorem xiX4_goneUnseen_X0 : GoodIn wsX4_goneUnseen wsX00 := goodIn_sub (fun _ h => List.mem_cons_of_mem _ (List.mem_append_right _ h)) xgwX0
set_option maxRecDepth 20000 in
theorem ggX4_goneUnseen_X0_halts : GoodIn wsX4_goneUnseen wsX0_halts := (goodIn_ca (goodIn_r _ [12, 13] rfl (by decide +kernel)) xiX4_goneUnseen_X0)
set_option maxRecDepth 20000 in
theorem gX4_goneUnseen_X0_halts : GoodIn wsX4_goneUnseen (wsV RX4 107 RX0 yX0_halts wsX0_halts) := goodIn_app (goodIn_r _ [8, 9, 10, 11] rfl (by decide +kernel)) ggX4_goneUnseen_X0_halts
set_option maxRecDepth 20000 in
theorem ggX4_goneUnseen_X4_fraction : GoodIn wsX4_goneUnseen wsX4_fraction := goodIn_r _ [17] rfl (by decide +kernel)
set_option maxRecDepth 20000 in
theorem gX4_goneUnseen_X4_fraction : GoodIn wsX4_goneUnseen (va_wsS RX4 133 yX4_fraction wsX4_fraction) := goodIn_app (goodIn_r _ [14, 15, 16] rfl (by decide +kernel)) ggX4_goneUnseen_X4_fraction
set_option maxRecDepth 20000 in
theorem ggX4_goneUnseen_X0_rideTo : GoodIn wsX4_goneUnseen wsX0_rideTo := (goodIn_ca (goodIn_r _ [21, 13, 22] rfl (by decide +kernel)) xiX4_goneUnseen_X0)
set_option maxRecDepth 20000 in
theorem gX4_goneUnseen_X0_rideTo : GoodIn wsX4_goneUnseen (wsV RX4 101 RX0 yX0_rideTo wsX0_rideTo) := goodIn_app (goodIn_r _ [18, 19, 20, 11] rfl (by decide +kernel)) ggX4_goneUnseen_X0_rideTo
set_option maxRecDepth 20000 in
theorem ggX4_goneUnseen_X0_weightAhead : GoodIn wsX4_goneUnseen wsX0_weightAhead := (goodIn_ca (goodIn_r _ [26, 27] rfl (by decide +kernel)) xiX4_goneUnseen_X0)
set_option maxRecDepth 20000 in
theorem gX4_goneUnseen_X0_weightAhead : GoodIn wsX4_goneUnseen (wsV RX4 130 RX0 yX0_weightAhead wsX0_weightAhead) := goodIn_app (goodIn_r _ [23, 24, 25, 11] rfl (by decide +kernel)) ggX4_goneUnseen_X0_weightAhead
set_option maxRecDepth 20000 in
theorem ggX4_goneUnseen_X0_total : GoodIn wsX4_goneUnseen wsX0_total := (goodIn_ca (goodIn_r _ [31, 32, 33, 24, 25, 11, 26, 27] rfl (by decide +kernel)) xiX4_goneUnseen_X0)
set_option maxRecDepth 20000 in
theorem gX4_goneUnseen_X0_total : GoodIn wsX4_goneUnseen (wsV RX4 94 RX0 yX0_total wsX0_total) := goodIn_app (goodIn_r _ [28, 29, 30, 11] rfl (by decide +kernel)) ggX4_goneUnseen_X0_total
theorem dX4_goneUnseen_0 : decode cX4_goneUnseen 0 = .ok (.aload_n 1, 1) := by decide +kernel
theorem dX4_goneUnseen_1 : decode cX4_goneUnseen 1 = .ok (.iload_n 2, 1) := by decide +kernel
theorem dX4_goneUnseen_2 : decode cX4_goneUnseen 2 = .ok (.aload_n 0, 1) := by decide +kernel
theorem dX4_goneUnseen_3 : decode cX4_goneUnseen 3 = .ok (.getfield 10, 3) := by decide +kernel
theorem dX4_goneUnseen_6 : decode cX4_goneUnseen 6 = .ok (.invokevirtual 98, 3) := by decide +kernel
theorem dX4_goneUnseen_9 : decode cX4_goneUnseen 9 = .ok (.invokevirtual 107, 3) := by decide +kernel
theorem dX4_goneUnseen_12 : decode cX4_goneUnseen 12 = .ok (.ifCond .ne 11, 3) := by decide +kernel
theorem dX4_goneUnseen_15 : decode cX4_goneUnseen 15 = .ok (.iconst 0, 1) := by decide +kernel
theorem dX4_goneUnseen_16 : decode cX4_goneUnseen 16 = .ok (.iconst 1, 1) := by decide +kernel
theorem dX4_goneUnseen_17 : decode cX4_goneUnseen 17 = .ok (.iload 5, 2) := by decide +kernel
theorem dX4_goneUnseen_19 : decode cX4_goneUnseen 19 = .ok (.invokestatic 133, 3) := by decide +kernel
theorem dX4_goneUnseen_22 : decode cX4_goneUnseen 22 = .ok (.lreturn, 1) := by decide +kernel
theorem dX4_goneUnseen_23 : decode cX4_goneUnseen 23 = .ok (.aload_n 1, 1) := by decide +kernel
theorem dX4_goneUnseen_24 : decode cX4_goneUnseen 24 = .ok (.iload_n 2, 1) := by decide +kernel
theorem dX4_goneUnseen_25 : decode cX4_goneUnseen 25 = .ok (.invokevirtual 101, 3) := by decide +kernel
theorem dX4_goneUnseen_28 : decode cX4_goneUnseen 28 = .ok (.istore 6, 2) := by decide +kernel
theorem dX4_goneUnseen_30 : decode cX4_goneUnseen 30 = .ok (.aload_n 1, 1) := by decide +kernel
theorem dX4_goneUnseen_31 : decode cX4_goneUnseen 31 = .ok (.iload_n 3, 1) := by decide +kernel
theorem dX4_goneUnseen_32 : decode cX4_goneUnseen 32 = .ok (.iload 6, 2) := by decide +kernel
theorem dX4_goneUnseen_34 : decode cX4_goneUnseen 34 = .ok (.isub, 1) := by decide +kernel
theorem dX4_goneUnseen_35 : decode cX4_goneUnseen 35 = .ok (.invokevirtual 130, 3) := by decide +kernel
theorem dX4_goneUnseen_38 : decode cX4_goneUnseen 38 = .ok (.istore 7, 2) := by decide +kernel
theorem dX4_goneUnseen_40 : decode cX4_goneUnseen 40 = .ok (.aload_n 1, 1) := by decide +kernel
theorem dX4_goneUnseen_41 : decode cX4_goneUnseen 41 = .ok (.iload 4, 2) := by decide +kernel
theorem dX4_goneUnseen_43 : decode cX4_goneUnseen 43 = .ok (.iload 6, 2) := by decide +kernel
theorem dX4_goneUnseen_45 : decode cX4_goneUnseen 45 = .ok (.isub, 1) := by decide +kernel
theorem dX4_goneUnseen_46 : decode cX4_goneUnseen 46 = .ok (.invokevirtual 130, 3) := by decide +kernel
theorem dX4_goneUnseen_49 : decode cX4_goneUnseen 49 = .ok (.iload 7, 2) := by decide +kernel
theorem dX4_goneUnseen_51 : decode cX4_goneUnseen 51 = .ok (.isub, 1) := by decide +kernel
theorem dX4_goneUnseen_52 : decode cX4_goneUnseen 52 = .ok (.istore 8, 2) := by decide +kernel
theorem dX4_goneUnseen_54 : decode cX4_goneUnseen 54 = .ok (.iload 7, 2) := by decide +kernel
theorem dX4_goneUnseen_56 : decode cX4_goneUnseen 56 = .ok (.aload_n 1, 1) := by decide +kernel
theorem dX4_goneUnseen_57 : decode cX4_goneUnseen 57 = .ok (.invokevirtual 94, 3) := by decide +kernel
theorem dX4_goneUnseen_60 : decode cX4_goneUnseen 60 = .ok (.iload 8, 2) := by decide +kernel
theorem dX4_goneUnseen_62 : decode cX4_goneUnseen 62 = .ok (.isub, 1) := by decide +kernel
theorem dX4_goneUnseen_63 : decode cX4_goneUnseen 63 = .ok (.iload 5, 2) := by decide +kernel
theorem dX4_goneUnseen_65 : decode cX4_goneUnseen 65 = .ok (.invokestatic 133, 3) := by decide +kernel
theorem dX4_goneUnseen_68 : decode cX4_goneUnseen 68 = .ok (.lreturn, 1) := by decide +kernel
theorem dX4_withHeartAbove_0 : decode cX4_withHeartAbove 0 = .ok (.iconst 0, 1) := by decide +kernel
theorem dX4_withHeartAbove_1 : decode cX4_withHeartAbove 1 = .ok (.istore 4, 2) := by decide +kernel
theorem dX4_withHeartAbove_3 : decode cX4_withHeartAbove 3 = .ok (.iconst 0, 1) := by decide +kernel
theorem dX4_withHeartAbove_4 : decode cX4_withHeartAbove 4 = .ok (.istore 5, 2) := by decide +kernel
theorem dX4_withHeartAbove_6 : decode cX4_withHeartAbove 6 = .ok (.iload 5, 2) := by decide +kernel
theorem dX4_withHeartAbove_8 : decode cX4_withHeartAbove 8 = .ok (.iload_n 1, 1) := by decide +kernel
theorem dX4_withHeartAbove_9 : decode cX4_withHeartAbove 9 = .ok (.if_icmp .ge 22, 3) := by decide +kernel
theorem dX4_withHeartAbove_12 : decode cX4_withHeartAbove 12 = .ok (.iload 5, 2) := by decide +kernel
theorem dX4_withHeartAbove_14 : decode cX4_withHeartAbove 14 = .ok (.iload_n 2, 1) := by decide +kernel
theorem dX4_withHeartAbove_15 : decode cX4_withHeartAbove 15 = .ok (.imul, 1) := by decide +kernel
theorem dX4_withHeartAbove_16 : decode cX4_withHeartAbove 16 = .ok (.iload_n 3, 1) := by decide +kernel
theorem dX4_withHeartAbove_17 : decode cX4_withHeartAbove 17 = .ok (.iadd, 1) := by decide +kernel
theorem dX4_withHeartAbove_18 : decode cX4_withHeartAbove 18 = .ok (.iload_n 0, 1) := by decide +kernel
theorem dX4_withHeartAbove_19 : decode cX4_withHeartAbove 19 = .ok (.if_icmp .le 6, 3) := by decide +kernel
theorem dX4_withHeartAbove_22 : decode cX4_withHeartAbove 22 = .ok (.iinc 4 1, 3) := by decide +kernel
theorem dX4_withHeartAbove_25 : decode cX4_withHeartAbove 25 = .ok (.iinc 5 1, 3) := by decide +kernel
theorem dX4_withHeartAbove_28 : decode cX4_withHeartAbove 28 = .ok (.goto (-22), 3) := by decide +kernel
theorem dX4_withHeartAbove_31 : decode cX4_withHeartAbove 31 = .ok (.iload 4, 2) := by decide +kernel
theorem dX4_withHeartAbove_33 : decode cX4_withHeartAbove 33 = .ok (.ireturn, 1) := by decide +kernel
