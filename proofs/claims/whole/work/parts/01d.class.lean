theorem dX0_init_0 : decode cX0_init 0 = .ok (.aload_n 0, 1) := by decide +kernel
theorem dX0_init_1 : decode cX0_init 1 = .ok (.invokespecial 3, 3) := by decide +kernel
theorem dX0_init_4 : decode cX0_init 4 = .ok (.aload_n 0, 1) := by decide +kernel
theorem dX0_init_5 : decode cX0_init 5 = .ok (.iconst 0, 1) := by decide +kernel
theorem dX0_init_6 : decode cX0_init 6 = .ok (.putfield 9, 3) := by decide +kernel
theorem dX0_init_9 : decode cX0_init 9 = .ok (.aload_n 0, 1) := by decide +kernel
theorem dX0_init_10 : decode cX0_init 10 = .ok (.iconst 0, 1) := by decide +kernel
theorem dX0_init_11 : decode cX0_init 11 = .ok (.putfield 15, 3) := by decide +kernel
theorem dX0_init_14 : decode cX0_init 14 = .ok (.aload_n 0, 1) := by decide +kernel
theorem dX0_init_15 : decode cX0_init 15 = .ok (.bipush (-5), 2) := by decide +kernel
theorem dX0_init_17 : decode cX0_init 17 = .ok (.putfield 18, 3) := by decide +kernel
theorem dX0_init_20 : decode cX0_init 20 = .ok (.aload_n 0, 1) := by decide +kernel
theorem dX0_init_21 : decode cX0_init 21 = .ok (.bipush 8, 2) := by decide +kernel
theorem dX0_init_23 : decode cX0_init 23 = .ok (.newarray .int, 2) := by decide +kernel
theorem dX0_init_25 : decode cX0_init 25 = .ok (.putfield 21, 3) := by decide +kernel
theorem dX0_init_28 : decode cX0_init 28 = .ok (.aload_n 0, 1) := by decide +kernel
theorem dX0_init_29 : decode cX0_init 29 = .ok (.bipush 8, 2) := by decide +kernel
theorem dX0_init_31 : decode cX0_init 31 = .ok (.newarray .int, 2) := by decide +kernel
theorem dX0_init_33 : decode cX0_init 33 = .ok (.putfield 25, 3) := by decide +kernel
theorem dX0_init_36 : decode cX0_init 36 = .ok (.aload_n 0, 1) := by decide +kernel
theorem dX0_init_37 : decode cX0_init 37 = .ok (.bipush 8, 2) := by decide +kernel
theorem dX0_init_39 : decode cX0_init 39 = .ok (.newarray .int, 2) := by decide +kernel
theorem dX0_init_41 : decode cX0_init 41 = .ok (.putfield 28, 3) := by decide +kernel
theorem dX0_init_44 : decode cX0_init 44 = .ok (.iconst 0, 1) := by decide +kernel
theorem dX0_init_45 : decode cX0_init 45 = .ok (.istore_n 1, 1) := by decide +kernel
theorem dX0_init_46 : decode cX0_init 46 = .ok (.iload_n 1, 1) := by decide +kernel
theorem dX0_init_47 : decode cX0_init 47 = .ok (.bipush 8, 2) := by decide +kernel
theorem dX0_init_49 : decode cX0_init 49 = .ok (.if_icmp .ge 17, 3) := by decide +kernel
theorem dX0_init_52 : decode cX0_init 52 = .ok (.aload_n 0, 1) := by decide +kernel
theorem dX0_init_53 : decode cX0_init 53 = .ok (.getfield 28, 3) := by decide +kernel
theorem dX0_init_56 : decode cX0_init 56 = .ok (.iload_n 1, 1) := by decide +kernel
theorem dX0_init_57 : decode cX0_init 57 = .ok (.bipush (-5), 2) := by decide +kernel
theorem dX0_init_59 : decode cX0_init 59 = .ok (.iastore, 1) := by decide +kernel
theorem dX0_init_60 : decode cX0_init 60 = .ok (.iinc 1 1, 3) := by decide +kernel
theorem dX0_init_63 : decode cX0_init 63 = .ok (.goto (-17), 3) := by decide +kernel
theorem dX0_init_66 : decode cX0_init 66 = .ok (.return_, 1) := by decide +kernel
theorem dX0_stick_0 : decode cX0_stick 0 = .ok (.aload_n 0, 1) := by decide +kernel
theorem dX0_stick_1 : decode cX0_stick 1 = .ok (.iconst 1, 1) := by decide +kernel
theorem dX0_stick_2 : decode cX0_stick 2 = .ok (.putfield 9, 3) := by decide +kernel
theorem dX0_stick_5 : decode cX0_stick 5 = .ok (.aload_n 0, 1) := by decide +kernel
theorem dX0_stick_6 : decode cX0_stick 6 = .ok (.iload_n 1, 1) := by decide +kernel
theorem dX0_stick_7 : decode cX0_stick 7 = .ok (.putfield 18, 3) := by decide +kernel
theorem dX0_stick_10 : decode cX0_stick 10 = .ok (.return_, 1) := by decide +kernel
set_option maxRecDepth 20000 in
theorem ggX0_settle_X0_stick : GoodIn wsX0_settle wsX0_stick := goodIn_r _ [8, 2, 3, 9, 10, 11, 12, 13, 14] (by decide +kernel) (by decide +kernel)
set_option maxRecDepth 20000 in
theorem gX0_settle_X0_stick : GoodIn wsX0_settle (wsV RX0 31 RX0 yX0_stick wsX0_stick) := goodIn_app (goodIn_of _ (by decide +kernel)) ggX0_settle_X0_stick
theorem dX0_settle_0 : decode cX0_settle 0 = .ok (.iconst 0, 1) := by decide +kernel
theorem dX0_settle_1 : decode cX0_settle 1 = .ok (.istore_n 1, 1) := by decide +kernel
theorem dX0_settle_2 : decode cX0_settle 2 = .ok (.iload_n 1, 1) := by decide +kernel
theorem dX0_settle_3 : decode cX0_settle 3 = .ok (.bipush 8, 2) := by decide +kernel
theorem dX0_settle_5 : decode cX0_settle 5 = .ok (.if_icmp .ge 26, 3) := by decide +kernel
theorem dX0_settle_8 : decode cX0_settle 8 = .ok (.aload_n 0, 1) := by decide +kernel
theorem dX0_settle_9 : decode cX0_settle 9 = .ok (.getfield 28, 3) := by decide +kernel
theorem dX0_settle_12 : decode cX0_settle 12 = .ok (.iload_n 1, 1) := by decide +kernel
theorem dX0_settle_13 : decode cX0_settle 13 = .ok (.iaload, 1) := by decide +kernel
theorem dX0_settle_14 : decode cX0_settle 14 = .ok (.bipush (-5), 2) := by decide +kernel
theorem dX0_settle_16 : decode cX0_settle 16 = .ok (.if_icmp .eq 9, 3) := by decide +kernel
theorem dX0_settle_19 : decode cX0_settle 19 = .ok (.aload_n 0, 1) := by decide +kernel
theorem dX0_settle_20 : decode cX0_settle 20 = .ok (.iload_n 1, 1) := by decide +kernel
theorem dX0_settle_21 : decode cX0_settle 21 = .ok (.invokevirtual 31, 3) := by decide +kernel
theorem dX0_settle_24 : decode cX0_settle 24 = .ok (.return_, 1) := by decide +kernel
theorem dX0_settle_25 : decode cX0_settle 25 = .ok (.iinc 1 1, 3) := by decide +kernel
theorem dX0_settle_28 : decode cX0_settle 28 = .ok (.goto (-26), 3) := by decide +kernel
theorem dX0_settle_31 : decode cX0_settle 31 = .ok (.aload_n 0, 1) := by decide +kernel
theorem dX0_settle_32 : decode cX0_settle 32 = .ok (.iconst 3, 1) := by decide +kernel
theorem dX0_settle_33 : decode cX0_settle 33 = .ok (.putfield 9, 3) := by decide +kernel
theorem dX0_settle_36 : decode cX0_settle 36 = .ok (.aload_n 0, 1) := by decide +kernel
theorem dX0_settle_37 : decode cX0_settle 37 = .ok (.bipush (-5), 2) := by decide +kernel
theorem dX0_settle_39 : decode cX0_settle 39 = .ok (.putfield 18, 3) := by decide +kernel
theorem dX0_settle_42 : decode cX0_settle 42 = .ok (.return_, 1) := by decide +kernel
theorem dX0_loaded_0 : decode cX0_loaded 0 = .ok (.iconst 0, 1) := by decide +kernel
theorem dX0_loaded_1 : decode cX0_loaded 1 = .ok (.istore_n 1, 1) := by decide +kernel
theorem dX0_loaded_2 : decode cX0_loaded 2 = .ok (.iconst 0, 1) := by decide +kernel
theorem dX0_loaded_3 : decode cX0_loaded 3 = .ok (.istore_n 2, 1) := by decide +kernel
theorem dX0_loaded_4 : decode cX0_loaded 4 = .ok (.iload_n 2, 1) := by decide +kernel
theorem dX0_loaded_5 : decode cX0_loaded 5 = .ok (.bipush 8, 2) := by decide +kernel
theorem dX0_loaded_7 : decode cX0_loaded 7 = .ok (.if_icmp .ge 23, 3) := by decide +kernel
theorem dX0_loaded_10 : decode cX0_loaded 10 = .ok (.aload_n 0, 1) := by decide +kernel
theorem dX0_loaded_11 : decode cX0_loaded 11 = .ok (.getfield 28, 3) := by decide +kernel
theorem dX0_loaded_14 : decode cX0_loaded 14 = .ok (.iload_n 2, 1) := by decide +kernel
theorem dX0_loaded_15 : decode cX0_loaded 15 = .ok (.iaload, 1) := by decide +kernel
theorem dX0_loaded_16 : decode cX0_loaded 16 = .ok (.bipush (-5), 2) := by decide +kernel
theorem dX0_loaded_18 : decode cX0_loaded 18 = .ok (.if_icmp .eq 6, 3) := by decide +kernel
theorem dX0_loaded_21 : decode cX0_loaded 21 = .ok (.iinc 1 1, 3) := by decide +kernel
theorem dX0_loaded_24 : decode cX0_loaded 24 = .ok (.iinc 2 1, 3) := by decide +kernel
theorem dX0_loaded_27 : decode cX0_loaded 27 = .ok (.goto (-23), 3) := by decide +kernel
theorem dX0_loaded_30 : decode cX0_loaded 30 = .ok (.iload_n 1, 1) := by decide +kernel
theorem dX0_loaded_31 : decode cX0_loaded 31 = .ok (.ireturn, 1) := by decide +kernel
theorem dX1_init_0 : decode cX1_init 0 = .ok (.aload_n 0, 1) := by decide +kernel
theorem dX1_init_1 : decode cX1_init 1 = .ok (.invokespecial 1, 3) := by decide +kernel
theorem dX1_init_4 : decode cX1_init 4 = .ok (.aload_n 0, 1) := by decide +kernel
theorem dX1_init_5 : decode cX1_init 5 = .ok (.bipush 110, 2) := by decide +kernel
theorem dX1_init_7 : decode cX1_init 7 = .ok (.newarray .int, 2) := by decide +kernel
theorem dX1_init_9 : decode cX1_init 9 = .ok (.putfield 9, 3) := by decide +kernel
theorem dX1_init_12 : decode cX1_init 12 = .ok (.aload_n 0, 1) := by decide +kernel
theorem dX1_init_13 : decode cX1_init 13 = .ok (.bipush 110, 2) := by decide +kernel
theorem dX1_init_15 : decode cX1_init 15 = .ok (.newarray .int, 2) := by decide +kernel
theorem dX1_init_17 : decode cX1_init 17 = .ok (.putfield 13, 3) := by decide +kernel
theorem dX1_init_20 : decode cX1_init 20 = .ok (.aload_n 0, 1) := by decide +kernel
theorem dX1_init_21 : decode cX1_init 21 = .ok (.bipush 110, 2) := by decide +kernel
theorem dX1_init_23 : decode cX1_init 23 = .ok (.newarray .int, 2) := by decide +kernel
theorem dX1_init_25 : decode cX1_init 25 = .ok (.putfield 16, 3) := by decide +kernel
theorem dX1_init_28 : decode cX1_init 28 = .ok (.aload_n 0, 1) := by decide +kernel
theorem dX1_init_29 : decode cX1_init 29 = .ok (.bipush 110, 2) := by decide +kernel
theorem dX1_init_31 : decode cX1_init 31 = .ok (.newarray .int, 2) := by decide +kernel
theorem dX1_init_33 : decode cX1_init 33 = .ok (.putfield 19, 3) := by decide +kernel
theorem dX1_init_36 : decode cX1_init 36 = .ok (.aload_n 0, 1) := by decide +kernel
theorem dX1_init_37 : decode cX1_init 37 = .ok (.sipush 1100, 3) := by decide +kernel
theorem dX1_init_40 : decode cX1_init 40 = .ok (.newarray .int, 2) := by decide +kernel
theorem dX1_init_42 : decode cX1_init 42 = .ok (.putfield 22, 3) := by decide +kernel
theorem dX1_init_45 : decode cX1_init 45 = .ok (.aload_n 0, 1) := by decide +kernel
theorem dX1_init_46 : decode cX1_init 46 = .ok (.bipush 8, 2) := by decide +kernel
theorem dX1_init_48 : decode cX1_init 48 = .ok (.anewarray 25, 3) := by decide +kernel
theorem dX1_init_51 : decode cX1_init 51 = .ok (.putfield 27, 3) := by decide +kernel
theorem dX1_init_54 : decode cX1_init 54 = .ok (.aload_n 0, 1) := by decide +kernel
theorem dX1_init_55 : decode cX1_init 55 = .ok (.bipush 6, 2) := by decide +kernel
theorem dX1_init_57 : decode cX1_init 57 = .ok (.newarray .int, 2) := by decide +kernel
theorem dX1_init_59 : decode cX1_init 59 = .ok (.putfield 31, 3) := by decide +kernel
theorem dX1_init_62 : decode cX1_init 62 = .ok (.return_, 1) := by decide +kernel
set_option maxRecDepth 20000 in
theorem ggX1_thing_X1_between : GoodIn wsX1_thing wsX1_between := goodIn_r _ [5] (by decide +kernel) (by decide +kernel)
set_option maxRecDepth 20000 in
theorem gX1_thing_X1_between : GoodIn wsX1_thing (va_wsS RX1 34 yX1_between wsX1_between) := goodIn_app (goodIn_of _ (by decide +kernel)) ggX1_thing_X1_between
set_option maxRecDepth 20000 in
theorem ggX1_thing_X1_add : GoodIn wsX1_thing wsX1_add := goodIn_ca (goodIn_r _ [9, 1, 10, 11, 12, 13, 14, 2, 3, 4, 5, 15, 16, 17, 18, 19, 20, 21, 22, 23] (by decide +kernel) (by decide +kernel)) (goodIn_sub (fun _ h => List.mem_cons_of_mem _ (List.mem_append_right _ h)) (by decide +kernel))
set_option maxRecDepth 20000 in
theorem gX1_thing_X1_add : GoodIn wsX1_thing (wsV RX1 42 RX1 yX1_add wsX1_add) := goodIn_app (goodIn_of _ (by decide +kernel)) ggX1_thing_X1_add
theorem dX1_thing_0 : decode cX1_thing 0 = .ok (.iload_n 1, 1) := by decide +kernel
theorem dX1_thing_1 : decode cX1_thing 1 = .ok (.iconst 0, 1) := by decide +kernel
theorem dX1_thing_2 : decode cX1_thing 2 = .ok (.iconst 4, 1) := by decide +kernel
theorem dX1_thing_3 : decode cX1_thing 3 = .ok (.invokestatic 34, 3) := by decide +kernel
theorem dX1_thing_6 : decode cX1_thing 6 = .ok (.ifCond .eq 14, 3) := by decide +kernel
theorem dX1_thing_9 : decode cX1_thing 9 = .ok (.iload_n 2, 1) := by decide +kernel
theorem dX1_thing_10 : decode cX1_thing 10 = .ok (.iconst 0, 1) := by decide +kernel
theorem dX1_thing_11 : decode cX1_thing 11 = .ok (.sipush 3000, 3) := by decide +kernel
theorem dX1_thing_14 : decode cX1_thing 14 = .ok (.invokestatic 34, 3) := by decide +kernel
theorem dX1_thing_17 : decode cX1_thing 17 = .ok (.ifCond .ne 6, 3) := by decide +kernel
theorem dX1_thing_20 : decode cX1_thing 20 = .ok (.bipush (-2), 2) := by decide +kernel
theorem dX1_thing_22 : decode cX1_thing 22 = .ok (.ireturn, 1) := by decide +kernel
theorem dX1_thing_23 : decode cX1_thing 23 = .ok (.aload_n 0, 1) := by decide +kernel
theorem dX1_thing_24 : decode cX1_thing 24 = .ok (.getfield 38, 3) := by decide +kernel
theorem dX1_thing_27 : decode cX1_thing 27 = .ok (.bipush 110, 2) := by decide +kernel
theorem dX1_thing_29 : decode cX1_thing 29 = .ok (.if_icmp .lt 6, 3) := by decide +kernel
theorem dX1_thing_32 : decode cX1_thing 32 = .ok (.bipush (-4), 2) := by decide +kernel
theorem dX1_thing_34 : decode cX1_thing 34 = .ok (.ireturn, 1) := by decide +kernel
theorem dX1_thing_35 : decode cX1_thing 35 = .ok (.aload_n 0, 1) := by decide +kernel
theorem dX1_thing_36 : decode cX1_thing 36 = .ok (.iload_n 1, 1) := by decide +kernel
theorem dX1_thing_37 : decode cX1_thing 37 = .ok (.iload_n 2, 1) := by decide +kernel
theorem dX1_thing_38 : decode cX1_thing 38 = .ok (.iconst 0, 1) := by decide +kernel
theorem dX1_thing_39 : decode cX1_thing 39 = .ok (.invokevirtual 42, 3) := by decide +kernel
theorem dX1_thing_42 : decode cX1_thing 42 = .ok (.ireturn, 1) := by decide +kernel
set_option maxRecDepth 20000 in
theorem ggX1_row_X1_between : GoodIn wsX1_row wsX1_between := goodIn_r _ [5] (by decide +kernel) (by decide +kernel)
set_option maxRecDepth 20000 in
theorem gX1_row_X1_between : GoodIn wsX1_row (va_wsS RX1 34 yX1_between wsX1_between) := goodIn_app (goodIn_of _ (by decide +kernel)) ggX1_row_X1_between
set_option maxRecDepth 20000 in
theorem ggX1_row_X1_found : GoodIn wsX1_row wsX1_found := goodIn_ca (goodIn_r _ [9, 10, 20, 21, 22, 23, 24, 25, 26, 27, 28] (by decide +kernel) (by decide +kernel)) (goodIn_sub (fun _ h => List.mem_cons_of_mem _ (List.mem_append_right _ h)) (by decide +kernel))
set_option maxRecDepth 20000 in
theorem gX1_row_X1_found : GoodIn wsX1_row (wsV RX1 46 RX1 yX1_found wsX1_found) := goodIn_app (goodIn_of _ (by decide +kernel)) ggX1_row_X1_found
set_option maxRecDepth 20000 in
theorem ggX1_row_X1_add : GoodIn wsX1_row wsX1_add := goodIn_ca (goodIn_r _ [14, 1, 15, 16, 17, 18, 19, 2, 3, 4, 5, 20, 21, 22, 23, 24, 25, 26, 27, 28] (by decide +kernel) (by decide +kernel)) (goodIn_sub (fun _ h => List.mem_cons_of_mem _ (List.mem_append_right _ h)) (by decide +kernel))
set_option maxRecDepth 20000 in
theorem gX1_row_X1_add : GoodIn wsX1_row (wsV RX1 42 RX1 yX1_add wsX1_add) := goodIn_app (goodIn_of _ (by decide +kernel)) ggX1_row_X1_add
theorem dX1_row_0 : decode cX1_row 0 = .ok (.iload_n 1, 1) := by decide +kernel
theorem dX1_row_1 : decode cX1_row 1 = .ok (.iconst 5, 1) := by decide +kernel
theorem dX1_row_2 : decode cX1_row 2 = .ok (.bipush 17, 2) := by decide +kernel
theorem dX1_row_4 : decode cX1_row 4 = .ok (.invokestatic 34, 3) := by decide +kernel
theorem dX1_row_7 : decode cX1_row 7 = .ok (.ifCond .eq 9, 3) := by decide +kernel
theorem dX1_row_10 : decode cX1_row 10 = .ok (.iload_n 2, 1) := by decide +kernel
theorem dX1_row_11 : decode cX1_row 11 = .ok (.bipush 10, 2) := by decide +kernel
theorem dX1_row_13 : decode cX1_row 13 = .ok (.if_icmp .le 6, 3) := by decide +kernel
theorem dX1_row_16 : decode cX1_row 16 = .ok (.bipush (-2), 2) := by decide +kernel
theorem dX1_row_18 : decode cX1_row 18 = .ok (.ireturn, 1) := by decide +kernel
theorem dX1_row_19 : decode cX1_row 19 = .ok (.aload_n 0, 1) := by decide +kernel
theorem dX1_row_20 : decode cX1_row 20 = .ok (.getfield 38, 3) := by decide +kernel
theorem dX1_row_23 : decode cX1_row 23 = .ok (.bipush 110, 2) := by decide +kernel
theorem dX1_row_25 : decode cX1_row 25 = .ok (.if_icmp .lt 6, 3) := by decide +kernel
theorem dX1_row_28 : decode cX1_row 28 = .ok (.bipush (-4), 2) := by decide +kernel
theorem dX1_row_30 : decode cX1_row 30 = .ok (.ireturn, 1) := by decide +kernel
theorem dX1_row_31 : decode cX1_row 31 = .ok (.iload_n 2, 1) := by decide +kernel
theorem dX1_row_32 : decode cX1_row 32 = .ok (.ifCond .ge 9, 3) := by decide +kernel
theorem dX1_row_35 : decode cX1_row 35 = .ok (.aload_n 0, 1) := by decide +kernel
theorem dX1_row_36 : decode cX1_row 36 = .ok (.iconst 5, 1) := by decide +kernel
theorem dX1_row_37 : decode cX1_row 37 = .ok (.invokevirtual 46, 3) := by decide +kernel
theorem dX1_row_40 : decode cX1_row 40 = .ok (.ireturn, 1) := by decide +kernel
theorem dX1_row_41 : decode cX1_row 41 = .ok (.aload_n 0, 1) := by decide +kernel
theorem dX1_row_42 : decode cX1_row 42 = .ok (.iload_n 1, 1) := by decide +kernel
theorem dX1_row_43 : decode cX1_row 43 = .ok (.iconst 0, 1) := by decide +kernel
theorem dX1_row_44 : decode cX1_row 44 = .ok (.iload_n 2, 1) := by decide +kernel
theorem dX1_row_45 : decode cX1_row 45 = .ok (.invokevirtual 42, 3) := by decide +kernel
theorem dX1_row_48 : decode cX1_row 48 = .ok (.ireturn, 1) := by decide +kernel
set_option maxRecDepth 20000 in
theorem ggX1_makeCase_X1_add : GoodIn wsX1_makeCase wsX1_add := goodIn_ca (goodIn_r _ [6, 1, 7, 8, 9, 10, 11, 12, 13, 5, 14, 15, 16, 17, 18, 19, 20, 21, 22, 23] (by decide +kernel) (by decide +kernel)) (goodIn_sub (fun _ h => List.mem_cons_of_mem _ (List.mem_append_right _ h)) (by decide +kernel))
set_option maxRecDepth 20000 in
theorem gX1_makeCase_X1_add : GoodIn wsX1_makeCase (wsV RX1 42 RX1 yX1_add wsX1_add) := goodIn_app (goodIn_of _ (by decide +kernel)) ggX1_makeCase_X1_add
theorem dX1_makeCase_0 : decode cX1_makeCase 0 = .ok (.aload_n 0, 1) := by decide +kernel
theorem dX1_makeCase_1 : decode cX1_makeCase 1 = .ok (.getfield 38, 3) := by decide +kernel
theorem dX1_makeCase_4 : decode cX1_makeCase 4 = .ok (.bipush 110, 2) := by decide +kernel
theorem dX1_makeCase_6 : decode cX1_makeCase 6 = .ok (.if_icmp .lt 6, 3) := by decide +kernel
theorem dX1_makeCase_9 : decode cX1_makeCase 9 = .ok (.bipush (-4), 2) := by decide +kernel
theorem dX1_makeCase_11 : decode cX1_makeCase 11 = .ok (.ireturn, 1) := by decide +kernel
theorem dX1_makeCase_12 : decode cX1_makeCase 12 = .ok (.aload_n 0, 1) := by decide +kernel
theorem dX1_makeCase_13 : decode cX1_makeCase 13 = .ok (.bipush 18, 2) := by decide +kernel
theorem dX1_makeCase_15 : decode cX1_makeCase 15 = .ok (.iconst 0, 1) := by decide +kernel
theorem dX1_makeCase_16 : decode cX1_makeCase 16 = .ok (.iconst 0, 1) := by decide +kernel
theorem dX1_makeCase_17 : decode cX1_makeCase 17 = .ok (.invokevirtual 42, 3) := by decide +kernel
theorem dX1_makeCase_20 : decode cX1_makeCase 20 = .ok (.ireturn, 1) := by decide +kernel
set_option maxRecDepth 20000 in
theorem ggX1_is_X1_isThing : GoodIn wsX1_is wsX1_isThing := goodIn_r _ [5, 6, 18, 19, 20, 21, 22, 23, 24, 25, 26] (by decide +kernel) (by decide +kernel)
set_option maxRecDepth 20000 in
theorem gX1_is_X1_isThing : GoodIn wsX1_is (wsV RX1 50 RX1 yX1_isThing wsX1_isThing) := goodIn_app (goodIn_of _ (by decide +kernel)) ggX1_is_X1_isThing
set_option maxRecDepth 20000 in
theorem ggX1_is_X1_between : GoodIn wsX1_is wsX1_between := goodIn_r _ [9] (by decide +kernel) (by decide +kernel)
set_option maxRecDepth 20000 in
theorem gX1_is_X1_between : GoodIn wsX1_is (va_wsS RX1 34 yX1_between wsX1_between) := goodIn_app (goodIn_of _ (by decide +kernel)) ggX1_is_X1_between
set_option maxRecDepth 20000 in
theorem ggX1_is_X1_isOf : GoodIn wsX1_is wsX1_isOf := goodIn_ca (goodIn_r _ [13, 14, 1, 2, 3, 4, 5, 6, 15, 16, 17, 18, 19, 20, 21, 22, 23, 24, 25, 26] (by decide +kernel) (by decide +kernel)) (goodIn_sub (fun _ h => List.mem_cons_of_mem _ (List.mem_append_right _ h)) (by decide +kernel))
set_option maxRecDepth 20000 in
theorem gX1_is_X1_isOf : GoodIn wsX1_is (wsV RX1 54 RX1 yX1_isOf wsX1_isOf) := goodIn_app (goodIn_of _ (by decide +kernel)) ggX1_is_X1_isOf
theorem dX1_is_0 : decode cX1_is 0 = .ok (.aload_n 0, 1) := by decide +kernel
theorem dX1_is_1 : decode cX1_is 1 = .ok (.iload_n 1, 1) := by decide +kernel
theorem dX1_is_2 : decode cX1_is 2 = .ok (.invokevirtual 50, 3) := by decide +kernel
theorem dX1_is_5 : decode cX1_is 5 = .ok (.ifCond .ne 5, 3) := by decide +kernel
theorem dX1_is_8 : decode cX1_is 8 = .ok (.iconst (-1), 1) := by decide +kernel
theorem dX1_is_9 : decode cX1_is 9 = .ok (.ireturn, 1) := by decide +kernel
theorem dX1_is_10 : decode cX1_is 10 = .ok (.iload_n 2, 1) := by decide +kernel
theorem dX1_is_11 : decode cX1_is 11 = .ok (.iconst 0, 1) := by decide +kernel
theorem dX1_is_12 : decode cX1_is 12 = .ok (.bipush 20, 2) := by decide +kernel
theorem dX1_is_14 : decode cX1_is 14 = .ok (.invokestatic 34, 3) := by decide +kernel
theorem dX1_is_17 : decode cX1_is 17 = .ok (.ifCond .ne 6, 3) := by decide +kernel
theorem dX1_is_20 : decode cX1_is 20 = .ok (.bipush (-2), 2) := by decide +kernel
theorem dX1_is_22 : decode cX1_is 22 = .ok (.ireturn, 1) := by decide +kernel
theorem dX1_is_23 : decode cX1_is 23 = .ok (.aload_n 0, 1) := by decide +kernel
theorem dX1_is_24 : decode cX1_is 24 = .ok (.iload_n 1, 1) := by decide +kernel
theorem dX1_is_25 : decode cX1_is 25 = .ok (.iload_n 2, 1) := by decide +kernel
theorem dX1_is_26 : decode cX1_is 26 = .ok (.invokevirtual 54, 3) := by decide +kernel
theorem dX1_is_29 : decode cX1_is 29 = .ok (.ifCond .eq 7, 3) := by decide +kernel
theorem dX1_is_32 : decode cX1_is 32 = .ok (.iconst 1, 1) := by decide +kernel
theorem dX1_is_33 : decode cX1_is 33 = .ok (.goto 4, 3) := by decide +kernel
theorem dX1_is_36 : decode cX1_is 36 = .ok (.iconst 0, 1) := by decide +kernel
theorem dX1_is_37 : decode cX1_is 37 = .ok (.ireturn, 1) := by decide +kernel
set_option maxRecDepth 20000 in
theorem ggX1_kinds_X1_isThing : GoodIn wsX1_kinds wsX1_isThing := goodIn_r _ [5, 6, 15, 16, 17, 18, 19, 20, 21, 22, 23] (by decide +kernel) (by decide +kernel)
set_option maxRecDepth 20000 in
theorem gX1_kinds_X1_isThing : GoodIn wsX1_kinds (wsV RX1 50 RX1 yX1_isThing wsX1_isThing) := goodIn_app (goodIn_of _ (by decide +kernel)) ggX1_kinds_X1_isThing
set_option maxRecDepth 20000 in
theorem ggX1_kinds_X1_isOf : GoodIn wsX1_kinds wsX1_isOf := goodIn_ca (goodIn_r _ [10, 11, 1, 2, 3, 4, 5, 6, 12, 13, 14, 15, 16, 17, 18, 19, 20, 21, 22, 23] (by decide +kernel) (by decide +kernel)) (goodIn_sub (fun _ h => List.mem_cons_of_mem _ (List.mem_append_right _ h)) (by decide +kernel))
set_option maxRecDepth 20000 in
theorem gX1_kinds_X1_isOf : GoodIn wsX1_kinds (wsV RX1 54 RX1 yX1_isOf wsX1_isOf) := goodIn_app (goodIn_of _ (by decide +kernel)) ggX1_kinds_X1_isOf
theorem dX1_kinds_0 : decode cX1_kinds 0 = .ok (.aload_n 0, 1) := by decide +kernel
theorem dX1_kinds_1 : decode cX1_kinds 1 = .ok (.iload_n 1, 1) := by decide +kernel
theorem dX1_kinds_2 : decode cX1_kinds 2 = .ok (.invokevirtual 50, 3) := by decide +kernel
theorem dX1_kinds_5 : decode cX1_kinds 5 = .ok (.ifCond .ne 5, 3) := by decide +kernel
theorem dX1_kinds_8 : decode cX1_kinds 8 = .ok (.iconst (-1), 1) := by decide +kernel
theorem dX1_kinds_9 : decode cX1_kinds 9 = .ok (.ireturn, 1) := by decide +kernel
theorem dX1_kinds_10 : decode cX1_kinds 10 = .ok (.iconst 0, 1) := by decide +kernel
theorem dX1_kinds_11 : decode cX1_kinds 11 = .ok (.istore_n 2, 1) := by decide +kernel
theorem dX1_kinds_12 : decode cX1_kinds 12 = .ok (.iconst 0, 1) := by decide +kernel
theorem dX1_kinds_13 : decode cX1_kinds 13 = .ok (.istore_n 3, 1) := by decide +kernel
theorem dX1_kinds_14 : decode cX1_kinds 14 = .ok (.iload_n 3, 1) := by decide +kernel
theorem dX1_kinds_15 : decode cX1_kinds 15 = .ok (.bipush 19, 2) := by decide +kernel
theorem dX1_kinds_17 : decode cX1_kinds 17 = .ok (.if_icmp .gt 21, 3) := by decide +kernel
theorem dX1_kinds_20 : decode cX1_kinds 20 = .ok (.aload_n 0, 1) := by decide +kernel
theorem dX1_kinds_21 : decode cX1_kinds 21 = .ok (.iload_n 1, 1) := by decide +kernel
theorem dX1_kinds_22 : decode cX1_kinds 22 = .ok (.iload_n 3, 1) := by decide +kernel
theorem dX1_kinds_23 : decode cX1_kinds 23 = .ok (.invokevirtual 54, 3) := by decide +kernel
theorem dX1_kinds_26 : decode cX1_kinds 26 = .ok (.ifCond .eq 6, 3) := by decide +kernel
theorem dX1_kinds_29 : decode cX1_kinds 29 = .ok (.iinc 2 1, 3) := by decide +kernel
theorem dX1_kinds_32 : decode cX1_kinds 32 = .ok (.iinc 3 1, 3) := by decide +kernel
theorem dX1_kinds_35 : decode cX1_kinds 35 = .ok (.goto (-21), 3) := by decide +kernel
theorem dX1_kinds_38 : decode cX1_kinds 38 = .ok (.iload_n 2, 1) := by decide +kernel
theorem dX1_kinds_39 : decode cX1_kinds 39 = .ok (.ireturn, 1) := by decide +kernel
set_option maxRecDepth 20000 in
theorem ggX1_worth_X1_isThing : GoodIn wsX1_worth wsX1_isThing := goodIn_r _ [7, 8, 27, 28, 29, 30, 31, 32, 33, 34, 35] (by decide +kernel) (by decide +kernel)
set_option maxRecDepth 20000 in
theorem gX1_worth_X1_isThing : GoodIn wsX1_worth (wsV RX1 50 RX1 yX1_isThing wsX1_isThing) := goodIn_app (goodIn_of _ (by decide +kernel)) ggX1_worth_X1_isThing
set_option maxRecDepth 20000 in
theorem ggX1_worth_X1_between : GoodIn wsX1_worth wsX1_between := goodIn_r _ [11] (by decide +kernel) (by decide +kernel)
set_option maxRecDepth 20000 in
theorem gX1_worth_X1_between : GoodIn wsX1_worth (va_wsS RX1 34 yX1_between wsX1_between) := goodIn_app (goodIn_of _ (by decide +kernel)) ggX1_worth_X1_between
set_option maxRecDepth 20000 in
theorem ggX1_worth_X1_isOf : GoodIn wsX1_worth wsX1_isOf := goodIn_ca (goodIn_r _ [15, 1, 3, 4, 5, 6, 7, 8, 16, 17, 18, 27, 28, 29, 30, 31, 32, 33, 34, 35] (by decide +kernel) (by decide +kernel)) (goodIn_sub (fun _ h => List.mem_cons_of_mem _ (List.mem_append_right _ h)) (by decide +kernel))
set_option maxRecDepth 20000 in
theorem gX1_worth_X1_isOf : GoodIn wsX1_worth (wsV RX1 54 RX1 yX1_isOf wsX1_isOf) := goodIn_app (goodIn_of _ (by decide +kernel)) ggX1_worth_X1_isOf
set_option maxRecDepth 20000 in
theorem ggX1_worth_X1_found : GoodIn wsX1_worth wsX1_found := goodIn_ca (goodIn_r _ [22, 23, 27, 28, 29, 30, 31, 32, 33, 34, 35] (by decide +kernel) (by decide +kernel)) (goodIn_sub (fun _ h => List.mem_cons_of_mem _ (List.mem_append_right _ h)) (by decide +kernel))
set_option maxRecDepth 20000 in
theorem gX1_worth_X1_found : GoodIn wsX1_worth (wsV RX1 46 RX1 yX1_found wsX1_found) := goodIn_app (goodIn_of _ (by decide +kernel)) ggX1_worth_X1_found
set_option maxRecDepth 20000 in
theorem ggX1_worth_X1_worthOf : GoodIn wsX1_worth wsX1_worthOf := goodIn_r _ [26] (by decide +kernel) (by decide +kernel)
set_option maxRecDepth 20000 in
theorem gX1_worth_X1_worthOf : GoodIn wsX1_worth (va_wsS RX1 58 yX1_worthOf wsX1_worthOf) := goodIn_app (goodIn_of _ (by decide +kernel)) ggX1_worth_X1_worthOf
theorem dX1_worth_0 : decode cX1_worth 0 = .ok (.aload_n 0, 1) := by decide +kernel
theorem dX1_worth_1 : decode cX1_worth 1 = .ok (.iload_n 1, 1) := by decide +kernel
theorem dX1_worth_2 : decode cX1_worth 2 = .ok (.invokevirtual 50, 3) := by decide +kernel
theorem dX1_worth_5 : decode cX1_worth 5 = .ok (.ifCond .ne 5, 3) := by decide +kernel
theorem dX1_worth_8 : decode cX1_worth 8 = .ok (.iconst (-1), 1) := by decide +kernel
theorem dX1_worth_9 : decode cX1_worth 9 = .ok (.ireturn, 1) := by decide +kernel
theorem dX1_worth_10 : decode cX1_worth 10 = .ok (.iload_n 2, 1) := by decide +kernel
theorem dX1_worth_11 : decode cX1_worth 11 = .ok (.iconst 0, 1) := by decide +kernel
theorem dX1_worth_12 : decode cX1_worth 12 = .ok (.iconst 3, 1) := by decide +kernel
theorem dX1_worth_13 : decode cX1_worth 13 = .ok (.invokestatic 34, 3) := by decide +kernel
theorem dX1_worth_16 : decode cX1_worth 16 = .ok (.ifCond .ne 6, 3) := by decide +kernel
theorem dX1_worth_19 : decode cX1_worth 19 = .ok (.bipush (-2), 2) := by decide +kernel
theorem dX1_worth_21 : decode cX1_worth 21 = .ok (.ireturn, 1) := by decide +kernel
theorem dX1_worth_22 : decode cX1_worth 22 = .ok (.aload_n 0, 1) := by decide +kernel
theorem dX1_worth_23 : decode cX1_worth 23 = .ok (.iload_n 1, 1) := by decide +kernel
theorem dX1_worth_24 : decode cX1_worth 24 = .ok (.iload_n 2, 1) := by decide +kernel
theorem dX1_worth_25 : decode cX1_worth 25 = .ok (.invokevirtual 54, 3) := by decide +kernel
theorem dX1_worth_28 : decode cX1_worth 28 = .ok (.ifCond .ne 9, 3) := by decide +kernel
theorem dX1_worth_31 : decode cX1_worth 31 = .ok (.aload_n 0, 1) := by decide +kernel
theorem dX1_worth_32 : decode cX1_worth 32 = .ok (.iconst 1, 1) := by decide +kernel
theorem dX1_worth_33 : decode cX1_worth 33 = .ok (.invokevirtual 46, 3) := by decide +kernel
theorem dX1_worth_36 : decode cX1_worth 36 = .ok (.ireturn, 1) := by decide +kernel
theorem dX1_worth_37 : decode cX1_worth 37 = .ok (.aload_n 0, 1) := by decide +kernel
theorem dX1_worth_38 : decode cX1_worth 38 = .ok (.getfield 9, 3) := by decide +kernel
theorem dX1_worth_41 : decode cX1_worth 41 = .ok (.iload_n 1, 1) := by decide +kernel
theorem dX1_worth_42 : decode cX1_worth 42 = .ok (.iaload, 1) := by decide +kernel
theorem dX1_worth_43 : decode cX1_worth 43 = .ok (.aload_n 0, 1) := by decide +kernel
theorem dX1_worth_44 : decode cX1_worth 44 = .ok (.getfield 13, 3) := by decide +kernel
theorem dX1_worth_47 : decode cX1_worth 47 = .ok (.iload_n 1, 1) := by decide +kernel
theorem dX1_worth_48 : decode cX1_worth 48 = .ok (.iaload, 1) := by decide +kernel
theorem dX1_worth_49 : decode cX1_worth 49 = .ok (.invokestatic 58, 3) := by decide +kernel
theorem dX1_worth_52 : decode cX1_worth 52 = .ok (.ireturn, 1) := by decide +kernel
set_option maxRecDepth 20000 in
theorem ggX1_date_X1_isThing : GoodIn wsX1_date wsX1_isThing := goodIn_r _ [7, 8, 21, 22, 23, 24, 25, 26, 27, 28, 29] (by decide +kernel) (by decide +kernel)
set_option maxRecDepth 20000 in
theorem gX1_date_X1_isThing : GoodIn wsX1_date (wsV RX1 50 RX1 yX1_isThing wsX1_isThing) := goodIn_app (goodIn_of _ (by decide +kernel)) ggX1_date_X1_isThing
set_option maxRecDepth 20000 in
theorem ggX1_date_X1_isOf : GoodIn wsX1_date wsX1_isOf := goodIn_ca (goodIn_r _ [12, 1, 3, 4, 5, 6, 7, 8, 13, 14, 15, 21, 22, 23, 24, 25, 26, 27, 28, 29] (by decide +kernel) (by decide +kernel)) (goodIn_sub (fun _ h => List.mem_cons_of_mem _ (List.mem_append_right _ h)) (by decide +kernel))
set_option maxRecDepth 20000 in
theorem gX1_date_X1_isOf : GoodIn wsX1_date (wsV RX1 54 RX1 yX1_isOf wsX1_isOf) := goodIn_app (goodIn_of _ (by decide +kernel)) ggX1_date_X1_isOf
set_option maxRecDepth 20000 in
theorem ggX1_date_X1_found : GoodIn wsX1_date wsX1_found := goodIn_ca (goodIn_r _ [19, 20, 21, 22, 23, 24, 25, 26, 27, 28, 29] (by decide +kernel) (by decide +kernel)) (goodIn_sub (fun _ h => List.mem_cons_of_mem _ (List.mem_append_right _ h)) (by decide +kernel))
set_option maxRecDepth 20000 in
theorem gX1_date_X1_found : GoodIn wsX1_date (wsV RX1 46 RX1 yX1_found wsX1_found) := goodIn_app (goodIn_of _ (by decide +kernel)) ggX1_date_X1_found
theorem dX1_date_0 : decode cX1_date 0 = .ok (.aload_n 0, 1) := by decide +kernel
theorem dX1_date_1 : decode cX1_date 1 = .ok (.iload_n 1, 1) := by decide +kernel
theorem dX1_date_2 : decode cX1_date 2 = .ok (.invokevirtual 50, 3) := by decide +kernel
theorem dX1_date_5 : decode cX1_date 5 = .ok (.ifCond .ne 5, 3) := by decide +kernel
theorem dX1_date_8 : decode cX1_date 8 = .ok (.iconst (-1), 1) := by decide +kernel
theorem dX1_date_9 : decode cX1_date 9 = .ok (.ireturn, 1) := by decide +kernel
theorem dX1_date_10 : decode cX1_date 10 = .ok (.aload_n 0, 1) := by decide +kernel
theorem dX1_date_11 : decode cX1_date 11 = .ok (.iload_n 1, 1) := by decide +kernel
theorem dX1_date_12 : decode cX1_date 12 = .ok (.bipush 19, 2) := by decide +kernel
theorem dX1_date_14 : decode cX1_date 14 = .ok (.invokevirtual 54, 3) := by decide +kernel
theorem dX1_date_17 : decode cX1_date 17 = .ok (.ifCond .ne 9, 3) := by decide +kernel
theorem dX1_date_20 : decode cX1_date 20 = .ok (.aload_n 0, 1) := by decide +kernel
theorem dX1_date_21 : decode cX1_date 21 = .ok (.iconst 1, 1) := by decide +kernel
theorem dX1_date_22 : decode cX1_date 22 = .ok (.invokevirtual 46, 3) := by decide +kernel
theorem dX1_date_25 : decode cX1_date 25 = .ok (.ireturn, 1) := by decide +kernel
theorem dX1_date_26 : decode cX1_date 26 = .ok (.aload_n 0, 1) := by decide +kernel
theorem dX1_date_27 : decode cX1_date 27 = .ok (.getfield 9, 3) := by decide +kernel
theorem dX1_date_30 : decode cX1_date 30 = .ok (.iload_n 1, 1) := by decide +kernel
theorem dX1_date_31 : decode cX1_date 31 = .ok (.iaload, 1) := by decide +kernel
theorem dX1_date_32 : decode cX1_date 32 = .ok (.iconst 2, 1) := by decide +kernel
theorem dX1_date_33 : decode cX1_date 33 = .ok (.if_icmp .ne 14, 3) := by decide +kernel
theorem dX1_date_36 : decode cX1_date 36 = .ok (.aload_n 0, 1) := by decide +kernel
theorem dX1_date_37 : decode cX1_date 37 = .ok (.getfield 13, 3) := by decide +kernel
theorem dX1_date_40 : decode cX1_date 40 = .ok (.iload_n 1, 1) := by decide +kernel
theorem dX1_date_41 : decode cX1_date 41 = .ok (.iaload, 1) := by decide +kernel
theorem dX1_date_42 : decode cX1_date 42 = .ok (.iconst 1, 1) := by decide +kernel
theorem dX1_date_43 : decode cX1_date 43 = .ok (.iadd, 1) := by decide +kernel
theorem dX1_date_44 : decode cX1_date 44 = .ok (.goto 11, 3) := by decide +kernel
theorem dX1_date_47 : decode cX1_date 47 = .ok (.aload_n 0, 1) := by decide +kernel
theorem dX1_date_48 : decode cX1_date 48 = .ok (.getfield 13, 3) := by decide +kernel
theorem dX1_date_51 : decode cX1_date 51 = .ok (.iload_n 1, 1) := by decide +kernel
theorem dX1_date_52 : decode cX1_date 52 = .ok (.iaload, 1) := by decide +kernel
theorem dX1_date_53 : decode cX1_date 53 = .ok (.iconst 1, 1) := by decide +kernel
theorem dX1_date_54 : decode cX1_date 54 = .ok (.isub, 1) := by decide +kernel
theorem dX1_date_55 : decode cX1_date 55 = .ok (.ireturn, 1) := by decide +kernel
set_option maxRecDepth 20000 in
theorem ggX1_size_X1_isThing : GoodIn wsX1_size wsX1_isThing := goodIn_r _ [6, 7, 24, 25, 26, 27, 28, 29, 30, 31, 32] (by decide +kernel) (by decide +kernel)
set_option maxRecDepth 20000 in
theorem gX1_size_X1_isThing : GoodIn wsX1_size (wsV RX1 50 RX1 yX1_isThing wsX1_isThing) := goodIn_app (goodIn_of _ (by decide +kernel)) ggX1_size_X1_isThing
set_option maxRecDepth 20000 in
theorem ggX1_size_X1_between : GoodIn wsX1_size wsX1_between := goodIn_r _ [10] (by decide +kernel) (by decide +kernel)
set_option maxRecDepth 20000 in
theorem gX1_size_X1_between : GoodIn wsX1_size (va_wsS RX1 34 yX1_between wsX1_between) := goodIn_app (goodIn_of _ (by decide +kernel)) ggX1_size_X1_between
set_option maxRecDepth 20000 in
theorem ggX1_size_X1_isOf : GoodIn wsX1_size wsX1_isOf := goodIn_ca (goodIn_r _ [14, 15, 2, 3, 4, 5, 6, 7, 16, 17, 18, 24, 25, 26, 27, 28, 29, 30, 31, 32] (by decide +kernel) (by decide +kernel)) (goodIn_sub (fun _ h => List.mem_cons_of_mem _ (List.mem_append_right _ h)) (by decide +kernel))
set_option maxRecDepth 20000 in
theorem gX1_size_X1_isOf : GoodIn wsX1_size (wsV RX1 54 RX1 yX1_isOf wsX1_isOf) := goodIn_app (goodIn_of _ (by decide +kernel)) ggX1_size_X1_isOf
set_option maxRecDepth 20000 in
theorem ggX1_size_X1_found : GoodIn wsX1_size wsX1_found := goodIn_ca (goodIn_r _ [22, 23, 24, 25, 26, 27, 28, 29, 30, 31, 32] (by decide +kernel) (by decide +kernel)) (goodIn_sub (fun _ h => List.mem_cons_of_mem _ (List.mem_append_right _ h)) (by decide +kernel))
set_option maxRecDepth 20000 in
theorem gX1_size_X1_found : GoodIn wsX1_size (wsV RX1 46 RX1 yX1_found wsX1_found) := goodIn_app (goodIn_of _ (by decide +kernel)) ggX1_size_X1_found
theorem dX1_size_0 : decode cX1_size 0 = .ok (.aload_n 0, 1) := by decide +kernel
theorem dX1_size_1 : decode cX1_size 1 = .ok (.iload_n 1, 1) := by decide +kernel
theorem dX1_size_2 : decode cX1_size 2 = .ok (.invokevirtual 50, 3) := by decide +kernel
theorem dX1_size_5 : decode cX1_size 5 = .ok (.ifCond .ne 5, 3) := by decide +kernel
theorem dX1_size_8 : decode cX1_size 8 = .ok (.iconst (-1), 1) := by decide +kernel
theorem dX1_size_9 : decode cX1_size 9 = .ok (.ireturn, 1) := by decide +kernel
theorem dX1_size_10 : decode cX1_size 10 = .ok (.iload_n 2, 1) := by decide +kernel
theorem dX1_size_11 : decode cX1_size 11 = .ok (.iconst 5, 1) := by decide +kernel
theorem dX1_size_12 : decode cX1_size 12 = .ok (.bipush 17, 2) := by decide +kernel
theorem dX1_size_14 : decode cX1_size 14 = .ok (.invokestatic 34, 3) := by decide +kernel
theorem dX1_size_17 : decode cX1_size 17 = .ok (.ifCond .ne 6, 3) := by decide +kernel
theorem dX1_size_20 : decode cX1_size 20 = .ok (.bipush (-2), 2) := by decide +kernel
theorem dX1_size_22 : decode cX1_size 22 = .ok (.ireturn, 1) := by decide +kernel
theorem dX1_size_23 : decode cX1_size 23 = .ok (.aload_n 0, 1) := by decide +kernel
theorem dX1_size_24 : decode cX1_size 24 = .ok (.iload_n 1, 1) := by decide +kernel
theorem dX1_size_25 : decode cX1_size 25 = .ok (.iload_n 2, 1) := by decide +kernel
theorem dX1_size_26 : decode cX1_size 26 = .ok (.invokevirtual 54, 3) := by decide +kernel
theorem dX1_size_29 : decode cX1_size 29 = .ok (.ifCond .ne 9, 3) := by decide +kernel
theorem dX1_size_32 : decode cX1_size 32 = .ok (.aload_n 0, 1) := by decide +kernel
theorem dX1_size_33 : decode cX1_size 33 = .ok (.iconst 1, 1) := by decide +kernel
theorem dX1_size_34 : decode cX1_size 34 = .ok (.invokevirtual 46, 3) := by decide +kernel
theorem dX1_size_37 : decode cX1_size 37 = .ok (.ireturn, 1) := by decide +kernel
theorem dX1_size_38 : decode cX1_size 38 = .ok (.aload_n 0, 1) := by decide +kernel
theorem dX1_size_39 : decode cX1_size 39 = .ok (.getfield 16, 3) := by decide +kernel
theorem dX1_size_42 : decode cX1_size 42 = .ok (.iload_n 1, 1) := by decide +kernel
theorem dX1_size_43 : decode cX1_size 43 = .ok (.iaload, 1) := by decide +kernel
theorem dX1_size_44 : decode cX1_size 44 = .ok (.ireturn, 1) := by decide +kernel
set_option maxRecDepth 20000 in
theorem ggX1_write_X1_isThing : GoodIn wsX1_write wsX1_isThing := goodIn_r _ [6, 7, 33, 34, 35, 36, 37, 38, 39, 40, 41] (by decide +kernel) (by decide +kernel)
set_option maxRecDepth 20000 in
theorem gX1_write_X1_isThing : GoodIn wsX1_write (wsV RX1 50 RX1 yX1_isThing wsX1_isThing) := goodIn_app (goodIn_of _ (by decide +kernel)) ggX1_write_X1_isThing
set_option maxRecDepth 20000 in
theorem ggX1_write_X1_between : GoodIn wsX1_write wsX1_between := goodIn_r _ [10] (by decide +kernel) (by decide +kernel)
set_option maxRecDepth 20000 in
theorem gX1_write_X1_between : GoodIn wsX1_write (va_wsS RX1 34 yX1_between wsX1_between) := goodIn_app (goodIn_of _ (by decide +kernel)) ggX1_write_X1_between
set_option maxRecDepth 20000 in
theorem ggX1_write_X1_isOf : GoodIn wsX1_write wsX1_isOf := goodIn_ca (goodIn_r _ [14, 15, 2, 3, 4, 5, 6, 7, 16, 17, 18, 33, 34, 35, 36, 37, 38, 39, 40, 41] (by decide +kernel) (by decide +kernel)) (goodIn_sub (fun _ h => List.mem_cons_of_mem _ (List.mem_append_right _ h)) (by decide +kernel))
set_option maxRecDepth 20000 in
theorem gX1_write_X1_isOf : GoodIn wsX1_write (wsV RX1 54 RX1 yX1_isOf wsX1_isOf) := goodIn_app (goodIn_of _ (by decide +kernel)) ggX1_write_X1_isOf
set_option maxRecDepth 20000 in
theorem ggX1_write_X1_found : GoodIn wsX1_write wsX1_found := goodIn_ca (goodIn_r _ [22, 23, 33, 34, 35, 36, 37, 38, 39, 40, 41] (by decide +kernel) (by decide +kernel)) (goodIn_sub (fun _ h => List.mem_cons_of_mem _ (List.mem_append_right _ h)) (by decide +kernel))
set_option maxRecDepth 20000 in
theorem gX1_write_X1_found : GoodIn wsX1_write (wsV RX1 46 RX1 yX1_found wsX1_found) := goodIn_app (goodIn_of _ (by decide +kernel)) ggX1_write_X1_found
set_option maxRecDepth 20000 in
theorem ggX1_write_X1_hasPlace : GoodIn wsX1_write wsX1_hasPlace := goodIn_ca (goodIn_r _ [27, 28, 33, 34, 35, 36, 37, 38, 39, 40, 41] (by decide +kernel) (by decide +kernel)) (goodIn_sub (fun _ h => List.mem_cons_of_mem _ (List.mem_append_right _ h)) (by decide +kernel))
set_option maxRecDepth 20000 in
theorem gX1_write_X1_hasPlace : GoodIn wsX1_write (wsV RX1 62 RX1 yX1_hasPlace wsX1_hasPlace) := goodIn_app (goodIn_of _ (by decide +kernel)) ggX1_write_X1_hasPlace
set_option maxRecDepth 20000 in
theorem ggX1_write_X1_lowestBits : GoodIn wsX1_write wsX1_lowestBits := goodIn_r _ [31, 32] (by decide +kernel) (by decide +kernel)
set_option maxRecDepth 20000 in
theorem gX1_write_X1_lowestBits : GoodIn wsX1_write (va_wsS RX1 65 yX1_lowestBits wsX1_lowestBits) := goodIn_app (goodIn_of _ (by decide +kernel)) ggX1_write_X1_lowestBits
theorem dX1_write_0 : decode cX1_write 0 = .ok (.aload_n 0, 1) := by decide +kernel
theorem dX1_write_1 : decode cX1_write 1 = .ok (.iload_n 1, 1) := by decide +kernel
theorem dX1_write_2 : decode cX1_write 2 = .ok (.invokevirtual 50, 3) := by decide +kernel
theorem dX1_write_5 : decode cX1_write 5 = .ok (.ifCond .ne 5, 3) := by decide +kernel
theorem dX1_write_8 : decode cX1_write 8 = .ok (.iconst (-1), 1) := by decide +kernel
theorem dX1_write_9 : decode cX1_write 9 = .ok (.ireturn, 1) := by decide +kernel
theorem dX1_write_10 : decode cX1_write 10 = .ok (.iload_n 2, 1) := by decide +kernel
theorem dX1_write_11 : decode cX1_write 11 = .ok (.iconst 5, 1) := by decide +kernel
theorem dX1_write_12 : decode cX1_write 12 = .ok (.bipush 8, 2) := by decide +kernel
theorem dX1_write_14 : decode cX1_write 14 = .ok (.invokestatic 34, 3) := by decide +kernel
theorem dX1_write_17 : decode cX1_write 17 = .ok (.ifCond .eq 19, 3) := by decide +kernel
theorem dX1_write_20 : decode cX1_write 20 = .ok (.iload_n 2, 1) := by decide +kernel
theorem dX1_write_21 : decode cX1_write 21 = .ok (.bipush 8, 2) := by decide +kernel
theorem dX1_write_23 : decode cX1_write 23 = .ok (.if_icmp .ne 16, 3) := by decide +kernel
theorem dX1_write_26 : decode cX1_write 26 = .ok (.lload 4, 2) := by decide +kernel
theorem dX1_write_28 : decode cX1_write 28 = .ok (.lload 4, 2) := by decide +kernel
theorem dX1_write_30 : decode cX1_write 30 = .ok (.l2i, 1) := by decide +kernel
theorem dX1_write_31 : decode cX1_write 31 = .ok (.i2l, 1) := by decide +kernel
theorem dX1_write_32 : decode cX1_write 32 = .ok (.lcmp, 1) := by decide +kernel
theorem dX1_write_33 : decode cX1_write 33 = .ok (.ifCond .eq 6, 3) := by decide +kernel
theorem dX1_write_36 : decode cX1_write 36 = .ok (.bipush (-2), 2) := by decide +kernel
theorem dX1_write_38 : decode cX1_write 38 = .ok (.ireturn, 1) := by decide +kernel
theorem dX1_write_39 : decode cX1_write 39 = .ok (.aload_n 0, 1) := by decide +kernel
theorem dX1_write_40 : decode cX1_write 40 = .ok (.iload_n 1, 1) := by decide +kernel
theorem dX1_write_41 : decode cX1_write 41 = .ok (.iload_n 2, 1) := by decide +kernel
theorem dX1_write_42 : decode cX1_write 42 = .ok (.invokevirtual 54, 3) := by decide +kernel
theorem dX1_write_45 : decode cX1_write 45 = .ok (.ifCond .ne 9, 3) := by decide +kernel
theorem dX1_write_48 : decode cX1_write 48 = .ok (.aload_n 0, 1) := by decide +kernel
theorem dX1_write_49 : decode cX1_write 49 = .ok (.iconst 1, 1) := by decide +kernel
theorem dX1_write_50 : decode cX1_write 50 = .ok (.invokevirtual 46, 3) := by decide +kernel
theorem dX1_write_53 : decode cX1_write 53 = .ok (.ireturn, 1) := by decide +kernel
theorem dX1_write_54 : decode cX1_write 54 = .ok (.aload_n 0, 1) := by decide +kernel
theorem dX1_write_55 : decode cX1_write 55 = .ok (.iload_n 1, 1) := by decide +kernel
theorem dX1_write_56 : decode cX1_write 56 = .ok (.iload_n 3, 1) := by decide +kernel
theorem dX1_write_57 : decode cX1_write 57 = .ok (.invokevirtual 62, 3) := by decide +kernel
theorem dX1_write_60 : decode cX1_write 60 = .ok (.ifCond .ne 9, 3) := by decide +kernel
theorem dX1_write_63 : decode cX1_write 63 = .ok (.aload_n 0, 1) := by decide +kernel
theorem dX1_write_64 : decode cX1_write 64 = .ok (.iconst 3, 1) := by decide +kernel
theorem dX1_write_65 : decode cX1_write 65 = .ok (.invokevirtual 46, 3) := by decide +kernel
theorem dX1_write_68 : decode cX1_write 68 = .ok (.ireturn, 1) := by decide +kernel
theorem dX1_write_69 : decode cX1_write 69 = .ok (.aload_n 0, 1) := by decide +kernel
theorem dX1_write_70 : decode cX1_write 70 = .ok (.getfield 22, 3) := by decide +kernel
theorem dX1_write_73 : decode cX1_write 73 = .ok (.iload_n 1, 1) := by decide +kernel
theorem dX1_write_74 : decode cX1_write 74 = .ok (.bipush 10, 2) := by decide +kernel
theorem dX1_write_76 : decode cX1_write 76 = .ok (.imul, 1) := by decide +kernel
theorem dX1_write_77 : decode cX1_write 77 = .ok (.iload_n 3, 1) := by decide +kernel
theorem dX1_write_78 : decode cX1_write 78 = .ok (.iadd, 1) := by decide +kernel
theorem dX1_write_79 : decode cX1_write 79 = .ok (.iload_n 2, 1) := by decide +kernel
theorem dX1_write_80 : decode cX1_write 80 = .ok (.lload 4, 2) := by decide +kernel
theorem dX1_write_82 : decode cX1_write 82 = .ok (.invokestatic 65, 3) := by decide +kernel
theorem dX1_write_85 : decode cX1_write 85 = .ok (.iastore, 1) := by decide +kernel
theorem dX1_write_86 : decode cX1_write 86 = .ok (.iconst 1, 1) := by decide +kernel
theorem dX1_write_87 : decode cX1_write 87 = .ok (.ireturn, 1) := by decide +kernel
set_option maxRecDepth 20000 in
theorem ggX1_read_X1_isThing : GoodIn wsX1_read wsX1_isThing := goodIn_r _ [12, 13, 42, 43, 44, 45, 46, 47, 48, 49, 50] (by decide +kernel) (by decide +kernel)
set_option maxRecDepth 20000 in
theorem gX1_read_X1_isThing : GoodIn wsX1_read (wsV RX1 50 RX1 yX1_isThing wsX1_isThing) := goodIn_app (goodIn_of _ (by decide +kernel)) ggX1_read_X1_isThing
set_option maxRecDepth 20000 in
theorem ggX1_read_X1_between : GoodIn wsX1_read wsX1_between := goodIn_r _ [16] (by decide +kernel) (by decide +kernel)
set_option maxRecDepth 20000 in
theorem gX1_read_X1_between : GoodIn wsX1_read (va_wsS RX1 34 yX1_between wsX1_between) := goodIn_app (goodIn_of _ (by decide +kernel)) ggX1_read_X1_between
set_option maxRecDepth 20000 in
theorem ggX1_read_X1_isOf : GoodIn wsX1_read wsX1_isOf := goodIn_ca (goodIn_r _ [20, 21, 8, 9, 10, 11, 12, 13, 22, 23, 24, 42, 43, 44, 45, 46, 47, 48, 49, 50] (by decide +kernel) (by decide +kernel)) (goodIn_sub (fun _ h => List.mem_cons_of_mem _ (List.mem_append_right _ h)) (by decide +kernel))
set_option maxRecDepth 20000 in
theorem gX1_read_X1_isOf : GoodIn wsX1_read (wsV RX1 54 RX1 yX1_isOf wsX1_isOf) := goodIn_app (goodIn_of _ (by decide +kernel)) ggX1_read_X1_isOf
set_option maxRecDepth 20000 in
theorem ggX1_read_X1_hasPlace : GoodIn wsX1_read wsX1_hasPlace := goodIn_ca (goodIn_r _ [28, 29, 42, 43, 44, 45, 46, 47, 48, 49, 50] (by decide +kernel) (by decide +kernel)) (goodIn_sub (fun _ h => List.mem_cons_of_mem _ (List.mem_append_right _ h)) (by decide +kernel))
set_option maxRecDepth 20000 in
theorem gX1_read_X1_hasPlace : GoodIn wsX1_read (wsV RX1 62 RX1 yX1_hasPlace wsX1_hasPlace) := goodIn_app (goodIn_of _ (by decide +kernel)) ggX1_read_X1_hasPlace
theorem dX1_read_0 : decode cX1_read 0 = .ok (.aload_n 0, 1) := by decide +kernel
theorem dX1_read_1 : decode cX1_read 1 = .ok (.iload_n 1, 1) := by decide +kernel
theorem dX1_read_2 : decode cX1_read 2 = .ok (.invokevirtual 50, 3) := by decide +kernel
theorem dX1_read_5 : decode cX1_read 5 = .ok (.ifCond .eq 13, 3) := by decide +kernel
theorem dX1_read_8 : decode cX1_read 8 = .ok (.iload_n 2, 1) := by decide +kernel
theorem dX1_read_9 : decode cX1_read 9 = .ok (.iconst 5, 1) := by decide +kernel
theorem dX1_read_10 : decode cX1_read 10 = .ok (.bipush 8, 2) := by decide +kernel
theorem dX1_read_12 : decode cX1_read 12 = .ok (.invokestatic 34, 3) := by decide +kernel
theorem dX1_read_15 : decode cX1_read 15 = .ok (.ifCond .ne 5, 3) := by decide +kernel
theorem dX1_read_18 : decode cX1_read 18 = .ok (.lconst 0, 1) := by decide +kernel
theorem dX1_read_19 : decode cX1_read 19 = .ok (.lreturn, 1) := by decide +kernel
theorem dX1_read_20 : decode cX1_read 20 = .ok (.aload_n 0, 1) := by decide +kernel
theorem dX1_read_21 : decode cX1_read 21 = .ok (.iload_n 1, 1) := by decide +kernel
theorem dX1_read_22 : decode cX1_read 22 = .ok (.iload_n 2, 1) := by decide +kernel
theorem dX1_read_23 : decode cX1_read 23 = .ok (.invokevirtual 54, 3) := by decide +kernel
theorem dX1_read_26 : decode cX1_read 26 = .ok (.ifCond .ne 13, 3) := by decide +kernel
theorem dX1_read_29 : decode cX1_read 29 = .ok (.new 69, 3) := by decide +kernel
theorem dX1_read_32 : decode cX1_read 32 = .ok (.dup, 1) := by decide +kernel
theorem dX1_read_33 : decode cX1_read 33 = .ok (.ldc 71, 2) := by decide +kernel
theorem dX1_read_35 : decode cX1_read 35 = .ok (.invokespecial 73, 3) := by decide +kernel
theorem dX1_read_38 : decode cX1_read 38 = .ok (.athrow, 1) := by decide +kernel
theorem dX1_read_39 : decode cX1_read 39 = .ok (.aload_n 0, 1) := by decide +kernel
theorem dX1_read_40 : decode cX1_read 40 = .ok (.iload_n 1, 1) := by decide +kernel
theorem dX1_read_41 : decode cX1_read 41 = .ok (.iload_n 3, 1) := by decide +kernel
theorem dX1_read_42 : decode cX1_read 42 = .ok (.invokevirtual 62, 3) := by decide +kernel
theorem dX1_read_45 : decode cX1_read 45 = .ok (.ifCond .ne 13, 3) := by decide +kernel
theorem dX1_read_48 : decode cX1_read 48 = .ok (.new 76, 3) := by decide +kernel
theorem dX1_read_51 : decode cX1_read 51 = .ok (.dup, 1) := by decide +kernel
theorem dX1_read_52 : decode cX1_read 52 = .ok (.ldc 78, 2) := by decide +kernel
theorem dX1_read_54 : decode cX1_read 54 = .ok (.invokespecial 80, 3) := by decide +kernel
theorem dX1_read_57 : decode cX1_read 57 = .ok (.athrow, 1) := by decide +kernel
theorem dX1_read_58 : decode cX1_read 58 = .ok (.aload_n 0, 1) := by decide +kernel
theorem dX1_read_59 : decode cX1_read 59 = .ok (.getfield 22, 3) := by decide +kernel
theorem dX1_read_62 : decode cX1_read 62 = .ok (.iload_n 1, 1) := by decide +kernel
theorem dX1_read_63 : decode cX1_read 63 = .ok (.bipush 10, 2) := by decide +kernel
theorem dX1_read_65 : decode cX1_read 65 = .ok (.imul, 1) := by decide +kernel
theorem dX1_read_66 : decode cX1_read 66 = .ok (.iload_n 3, 1) := by decide +kernel
theorem dX1_read_67 : decode cX1_read 67 = .ok (.iadd, 1) := by decide +kernel
theorem dX1_read_68 : decode cX1_read 68 = .ok (.iaload, 1) := by decide +kernel
theorem dX1_read_69 : decode cX1_read 69 = .ok (.i2l, 1) := by decide +kernel
theorem dX1_read_70 : decode cX1_read 70 = .ok (.lreturn, 1) := by decide +kernel
set_option maxRecDepth 20000 in
theorem ggX1_hang_X1_isThing : GoodIn wsX1_hang wsX1_isThing := goodIn_r _ [7, 8, 40, 41, 42, 43, 44, 45, 46, 47, 48] (by decide +kernel) (by decide +kernel)
set_option maxRecDepth 20000 in
theorem gX1_hang_X1_isThing : GoodIn wsX1_hang (wsV RX1 50 RX1 yX1_isThing wsX1_isThing) := goodIn_app (goodIn_of _ (by decide +kernel)) ggX1_hang_X1_isThing
set_option maxRecDepth 20000 in
theorem ggX1_hang_X1_isThingOrNone : GoodIn wsX1_hang wsX1_isThingOrNone := goodIn_r _ [12, 3, 4, 5, 6, 7, 8, 40, 41, 42, 43, 44, 45, 46, 47, 48] (by decide +kernel) (by decide +kernel)
set_option maxRecDepth 20000 in
theorem gX1_hang_X1_isThingOrNone : GoodIn wsX1_hang (wsV RX1 81 RX1 yX1_isThingOrNone wsX1_isThingOrNone) := goodIn_app (goodIn_of _ (by decide +kernel)) ggX1_hang_X1_isThingOrNone
set_option maxRecDepth 20000 in
theorem ggX1_hang_X1_between : GoodIn wsX1_hang wsX1_between := goodIn_r _ [15] (by decide +kernel) (by decide +kernel)
set_option maxRecDepth 20000 in
theorem gX1_hang_X1_between : GoodIn wsX1_hang (va_wsS RX1 34 yX1_between wsX1_between) := goodIn_app (goodIn_of _ (by decide +kernel)) ggX1_hang_X1_between
set_option maxRecDepth 20000 in
theorem ggX1_hang_X1_isOf : GoodIn wsX1_hang wsX1_isOf := goodIn_ca (goodIn_r _ [19, 1, 3, 4, 5, 6, 7, 8, 20, 21, 22, 40, 41, 42, 43, 44, 45, 46, 47, 48] (by decide +kernel) (by decide +kernel)) (goodIn_sub (fun _ h => List.mem_cons_of_mem _ (List.mem_append_right _ h)) (by decide +kernel))
set_option maxRecDepth 20000 in
theorem gX1_hang_X1_isOf : GoodIn wsX1_hang (wsV RX1 54 RX1 yX1_isOf wsX1_isOf) := goodIn_app (goodIn_of _ (by decide +kernel)) ggX1_hang_X1_isOf
set_option maxRecDepth 20000 in
theorem ggX1_hang_X1_partOf : GoodIn wsX1_hang wsX1_partOf := goodIn_r _ [25] (by decide +kernel) (by decide +kernel)
set_option maxRecDepth 20000 in
theorem gX1_hang_X1_partOf : GoodIn wsX1_hang (va_wsS RX1 84 yX1_partOf wsX1_partOf) := goodIn_app (goodIn_of _ (by decide +kernel)) ggX1_hang_X1_partOf
set_option maxRecDepth 20000 in
theorem ggX1_hang_X1_passesFor : GoodIn wsX1_hang wsX1_passesFor := goodIn_ca (goodIn_r _ [29, 16, 17, 18, 6, 19, 1, 3, 4, 5, 7, 8, 20, 21, 22, 40, 41, 42, 43, 44, 45, 46, 47, 48] (by decide +kernel) (by decide +kernel)) (goodIn_sub (fun _ h => List.mem_cons_of_mem _ (List.mem_append_right _ h)) (by decide +kernel))
set_option maxRecDepth 20000 in
theorem gX1_hang_X1_passesFor : GoodIn wsX1_hang (wsV RX1 87 RX1 yX1_passesFor wsX1_passesFor) := goodIn_app (goodIn_of _ (by decide +kernel)) ggX1_hang_X1_passesFor
set_option maxRecDepth 20000 in
theorem ggX1_hang_X1_found : GoodIn wsX1_hang wsX1_found := goodIn_ca (goodIn_r _ [33, 34, 40, 41, 42, 43, 44, 45, 46, 47, 48] (by decide +kernel) (by decide +kernel)) (goodIn_sub (fun _ h => List.mem_cons_of_mem _ (List.mem_append_right _ h)) (by decide +kernel))
set_option maxRecDepth 20000 in
theorem gX1_hang_X1_found : GoodIn wsX1_hang (wsV RX1 46 RX1 yX1_found wsX1_found) := goodIn_app (goodIn_of _ (by decide +kernel)) ggX1_hang_X1_found
set_option maxRecDepth 20000 in
theorem ggX1_hang_X1_hasPlace : GoodIn wsX1_hang wsX1_hasPlace := goodIn_ca (goodIn_r _ [38, 39, 40, 41, 42, 43, 44, 45, 46, 47, 48] (by decide +kernel) (by decide +kernel)) (goodIn_sub (fun _ h => List.mem_cons_of_mem _ (List.mem_append_right _ h)) (by decide +kernel))
set_option maxRecDepth 20000 in
theorem gX1_hang_X1_hasPlace : GoodIn wsX1_hang (wsV RX1 62 RX1 yX1_hasPlace wsX1_hasPlace) := goodIn_app (goodIn_of _ (by decide +kernel)) ggX1_hang_X1_hasPlace
theorem dX1_hang_0 : decode cX1_hang 0 = .ok (.aload_n 0, 1) := by decide +kernel
theorem dX1_hang_1 : decode cX1_hang 1 = .ok (.iload_n 1, 1) := by decide +kernel
theorem dX1_hang_2 : decode cX1_hang 2 = .ok (.invokevirtual 50, 3) := by decide +kernel
theorem dX1_hang_5 : decode cX1_hang 5 = .ok (.ifCond .eq 12, 3) := by decide +kernel
theorem dX1_hang_8 : decode cX1_hang 8 = .ok (.aload_n 0, 1) := by decide +kernel
theorem dX1_hang_9 : decode cX1_hang 9 = .ok (.iload 4, 2) := by decide +kernel
theorem dX1_hang_11 : decode cX1_hang 11 = .ok (.invokevirtual 81, 3) := by decide +kernel
theorem dX1_hang_14 : decode cX1_hang 14 = .ok (.ifCond .ne 5, 3) := by decide +kernel
theorem dX1_hang_17 : decode cX1_hang 17 = .ok (.iconst (-1), 1) := by decide +kernel
theorem dX1_hang_18 : decode cX1_hang 18 = .ok (.ireturn, 1) := by decide +kernel
theorem dX1_hang_19 : decode cX1_hang 19 = .ok (.iload_n 2, 1) := by decide +kernel
theorem dX1_hang_20 : decode cX1_hang 20 = .ok (.bipush 9, 2) := by decide +kernel
theorem dX1_hang_22 : decode cX1_hang 22 = .ok (.bipush 17, 2) := by decide +kernel
theorem dX1_hang_24 : decode cX1_hang 24 = .ok (.invokestatic 34, 3) := by decide +kernel
theorem dX1_hang_27 : decode cX1_hang 27 = .ok (.ifCond .ne 6, 3) := by decide +kernel
theorem dX1_hang_30 : decode cX1_hang 30 = .ok (.bipush (-2), 2) := by decide +kernel
theorem dX1_hang_32 : decode cX1_hang 32 = .ok (.ireturn, 1) := by decide +kernel
theorem dX1_hang_33 : decode cX1_hang 33 = .ok (.aload_n 0, 1) := by decide +kernel
theorem dX1_hang_34 : decode cX1_hang 34 = .ok (.iload_n 1, 1) := by decide +kernel
theorem dX1_hang_35 : decode cX1_hang 35 = .ok (.iload_n 2, 1) := by decide +kernel
theorem dX1_hang_36 : decode cX1_hang 36 = .ok (.invokevirtual 54, 3) := by decide +kernel
theorem dX1_hang_39 : decode cX1_hang 39 = .ok (.ifCond .eq 16, 3) := by decide +kernel
theorem dX1_hang_42 : decode cX1_hang 42 = .ok (.aload_n 0, 1) := by decide +kernel
theorem dX1_hang_43 : decode cX1_hang 43 = .ok (.iload 4, 2) := by decide +kernel
theorem dX1_hang_45 : decode cX1_hang 45 = .ok (.iload_n 2, 1) := by decide +kernel
theorem dX1_hang_46 : decode cX1_hang 46 = .ok (.invokestatic 84, 3) := by decide +kernel
theorem dX1_hang_49 : decode cX1_hang 49 = .ok (.invokevirtual 87, 3) := by decide +kernel
theorem dX1_hang_52 : decode cX1_hang 52 = .ok (.ifCond .ne 9, 3) := by decide +kernel
theorem dX1_hang_55 : decode cX1_hang 55 = .ok (.aload_n 0, 1) := by decide +kernel
theorem dX1_hang_56 : decode cX1_hang 56 = .ok (.iconst 1, 1) := by decide +kernel
theorem dX1_hang_57 : decode cX1_hang 57 = .ok (.invokevirtual 46, 3) := by decide +kernel
theorem dX1_hang_60 : decode cX1_hang 60 = .ok (.ireturn, 1) := by decide +kernel
theorem dX1_hang_61 : decode cX1_hang 61 = .ok (.aload_n 0, 1) := by decide +kernel
theorem dX1_hang_62 : decode cX1_hang 62 = .ok (.iload_n 1, 1) := by decide +kernel
theorem dX1_hang_63 : decode cX1_hang 63 = .ok (.iload_n 3, 1) := by decide +kernel
theorem dX1_hang_64 : decode cX1_hang 64 = .ok (.invokevirtual 62, 3) := by decide +kernel
theorem dX1_hang_67 : decode cX1_hang 67 = .ok (.ifCond .ne 9, 3) := by decide +kernel
theorem dX1_hang_70 : decode cX1_hang 70 = .ok (.aload_n 0, 1) := by decide +kernel
theorem dX1_hang_71 : decode cX1_hang 71 = .ok (.iconst 3, 1) := by decide +kernel
theorem dX1_hang_72 : decode cX1_hang 72 = .ok (.invokevirtual 46, 3) := by decide +kernel
theorem dX1_hang_75 : decode cX1_hang 75 = .ok (.ireturn, 1) := by decide +kernel
theorem dX1_hang_76 : decode cX1_hang 76 = .ok (.aload_n 0, 1) := by decide +kernel
theorem dX1_hang_77 : decode cX1_hang 77 = .ok (.iload 4, 2) := by decide +kernel
theorem dX1_hang_79 : decode cX1_hang 79 = .ok (.aload_n 0, 1) := by decide +kernel
theorem dX1_hang_80 : decode cX1_hang 80 = .ok (.getfield 9, 3) := by decide +kernel
theorem dX1_hang_83 : decode cX1_hang 83 = .ok (.iload_n 1, 1) := by decide +kernel
theorem dX1_hang_84 : decode cX1_hang 84 = .ok (.iaload, 1) := by decide +kernel
theorem dX1_hang_85 : decode cX1_hang 85 = .ok (.invokestatic 84, 3) := by decide +kernel
theorem dX1_hang_88 : decode cX1_hang 88 = .ok (.invokevirtual 87, 3) := by decide +kernel
theorem dX1_hang_91 : decode cX1_hang 91 = .ok (.ifCond .ne 9, 3) := by decide +kernel
theorem dX1_hang_94 : decode cX1_hang 94 = .ok (.aload_n 0, 1) := by decide +kernel
theorem dX1_hang_95 : decode cX1_hang 95 = .ok (.iconst 4, 1) := by decide +kernel
theorem dX1_hang_96 : decode cX1_hang 96 = .ok (.invokevirtual 46, 3) := by decide +kernel
theorem dX1_hang_99 : decode cX1_hang 99 = .ok (.ireturn, 1) := by decide +kernel
theorem dX1_hang_100 : decode cX1_hang 100 = .ok (.aload_n 0, 1) := by decide +kernel
theorem dX1_hang_101 : decode cX1_hang 101 = .ok (.getfield 22, 3) := by decide +kernel
theorem dX1_hang_104 : decode cX1_hang 104 = .ok (.iload_n 1, 1) := by decide +kernel
theorem dX1_hang_105 : decode cX1_hang 105 = .ok (.bipush 10, 2) := by decide +kernel
theorem dX1_hang_107 : decode cX1_hang 107 = .ok (.imul, 1) := by decide +kernel
theorem dX1_hang_108 : decode cX1_hang 108 = .ok (.iload_n 3, 1) := by decide +kernel
theorem dX1_hang_109 : decode cX1_hang 109 = .ok (.iadd, 1) := by decide +kernel
theorem dX1_hang_110 : decode cX1_hang 110 = .ok (.iload 4, 2) := by decide +kernel
theorem dX1_hang_112 : decode cX1_hang 112 = .ok (.iastore, 1) := by decide +kernel
theorem dX1_hang_113 : decode cX1_hang 113 = .ok (.iconst 1, 1) := by decide +kernel
theorem dX1_hang_114 : decode cX1_hang 114 = .ok (.ireturn, 1) := by decide +kernel
set_option maxRecDepth 20000 in
theorem ggX1_at_X1_isThing : GoodIn wsX1_at wsX1_isThing := goodIn_r _ [6, 7, 29, 30, 31, 32, 33, 34, 35, 36, 37] (by decide +kernel) (by decide +kernel)
set_option maxRecDepth 20000 in
theorem gX1_at_X1_isThing : GoodIn wsX1_at (wsV RX1 50 RX1 yX1_isThing wsX1_isThing) := goodIn_app (goodIn_of _ (by decide +kernel)) ggX1_at_X1_isThing
set_option maxRecDepth 20000 in
theorem ggX1_at_X1_between : GoodIn wsX1_at wsX1_between := goodIn_r _ [10] (by decide +kernel) (by decide +kernel)
set_option maxRecDepth 20000 in
theorem gX1_at_X1_between : GoodIn wsX1_at (va_wsS RX1 34 yX1_between wsX1_between) := goodIn_app (goodIn_of _ (by decide +kernel)) ggX1_at_X1_between
set_option maxRecDepth 20000 in
theorem ggX1_at_X1_isOf : GoodIn wsX1_at wsX1_isOf := goodIn_ca (goodIn_r _ [14, 15, 2, 3, 4, 5, 6, 7, 16, 17, 18, 29, 30, 31, 32, 33, 34, 35, 36, 37] (by decide +kernel) (by decide +kernel)) (goodIn_sub (fun _ h => List.mem_cons_of_mem _ (List.mem_append_right _ h)) (by decide +kernel))
set_option maxRecDepth 20000 in
theorem gX1_at_X1_isOf : GoodIn wsX1_at (wsV RX1 54 RX1 yX1_isOf wsX1_isOf) := goodIn_app (goodIn_of _ (by decide +kernel)) ggX1_at_X1_isOf
set_option maxRecDepth 20000 in
theorem ggX1_at_X1_found : GoodIn wsX1_at wsX1_found := goodIn_ca (goodIn_r _ [22, 23, 29, 30, 31, 32, 33, 34, 35, 36, 37] (by decide +kernel) (by decide +kernel)) (goodIn_sub (fun _ h => List.mem_cons_of_mem _ (List.mem_append_right _ h)) (by decide +kernel))
set_option maxRecDepth 20000 in
theorem gX1_at_X1_found : GoodIn wsX1_at (wsV RX1 46 RX1 yX1_found wsX1_found) := goodIn_app (goodIn_of _ (by decide +kernel)) ggX1_at_X1_found
set_option maxRecDepth 20000 in
theorem ggX1_at_X1_hasPlace : GoodIn wsX1_at wsX1_hasPlace := goodIn_ca (goodIn_r _ [27, 28, 29, 30, 31, 32, 33, 34, 35, 36, 37] (by decide +kernel) (by decide +kernel)) (goodIn_sub (fun _ h => List.mem_cons_of_mem _ (List.mem_append_right _ h)) (by decide +kernel))
set_option maxRecDepth 20000 in
theorem gX1_at_X1_hasPlace : GoodIn wsX1_at (wsV RX1 62 RX1 yX1_hasPlace wsX1_hasPlace) := goodIn_app (goodIn_of _ (by decide +kernel)) ggX1_at_X1_hasPlace
theorem dX1_at_0 : decode cX1_at 0 = .ok (.aload_n 0, 1) := by decide +kernel
theorem dX1_at_1 : decode cX1_at 1 = .ok (.iload_n 1, 1) := by decide +kernel
theorem dX1_at_2 : decode cX1_at 2 = .ok (.invokevirtual 50, 3) := by decide +kernel
theorem dX1_at_5 : decode cX1_at 5 = .ok (.ifCond .ne 5, 3) := by decide +kernel
theorem dX1_at_8 : decode cX1_at 8 = .ok (.iconst (-1), 1) := by decide +kernel
theorem dX1_at_9 : decode cX1_at 9 = .ok (.ireturn, 1) := by decide +kernel
theorem dX1_at_10 : decode cX1_at 10 = .ok (.iload_n 2, 1) := by decide +kernel
theorem dX1_at_11 : decode cX1_at 11 = .ok (.bipush 9, 2) := by decide +kernel
theorem dX1_at_13 : decode cX1_at 13 = .ok (.bipush 17, 2) := by decide +kernel
theorem dX1_at_15 : decode cX1_at 15 = .ok (.invokestatic 34, 3) := by decide +kernel
theorem dX1_at_18 : decode cX1_at 18 = .ok (.ifCond .ne 6, 3) := by decide +kernel
theorem dX1_at_21 : decode cX1_at 21 = .ok (.bipush (-2), 2) := by decide +kernel
theorem dX1_at_23 : decode cX1_at 23 = .ok (.ireturn, 1) := by decide +kernel
theorem dX1_at_24 : decode cX1_at 24 = .ok (.aload_n 0, 1) := by decide +kernel
theorem dX1_at_25 : decode cX1_at 25 = .ok (.iload_n 1, 1) := by decide +kernel
theorem dX1_at_26 : decode cX1_at 26 = .ok (.iload_n 2, 1) := by decide +kernel
theorem dX1_at_27 : decode cX1_at 27 = .ok (.invokevirtual 54, 3) := by decide +kernel
theorem dX1_at_30 : decode cX1_at 30 = .ok (.ifCond .ne 9, 3) := by decide +kernel
theorem dX1_at_33 : decode cX1_at 33 = .ok (.aload_n 0, 1) := by decide +kernel
theorem dX1_at_34 : decode cX1_at 34 = .ok (.iconst 1, 1) := by decide +kernel
theorem dX1_at_35 : decode cX1_at 35 = .ok (.invokevirtual 46, 3) := by decide +kernel
theorem dX1_at_38 : decode cX1_at 38 = .ok (.ireturn, 1) := by decide +kernel
theorem dX1_at_39 : decode cX1_at 39 = .ok (.aload_n 0, 1) := by decide +kernel
theorem dX1_at_40 : decode cX1_at 40 = .ok (.iload_n 1, 1) := by decide +kernel
theorem dX1_at_41 : decode cX1_at 41 = .ok (.iload_n 3, 1) := by decide +kernel
theorem dX1_at_42 : decode cX1_at 42 = .ok (.invokevirtual 62, 3) := by decide +kernel
theorem dX1_at_45 : decode cX1_at 45 = .ok (.ifCond .ne 9, 3) := by decide +kernel
theorem dX1_at_48 : decode cX1_at 48 = .ok (.aload_n 0, 1) := by decide +kernel
theorem dX1_at_49 : decode cX1_at 49 = .ok (.iconst 3, 1) := by decide +kernel
theorem dX1_at_50 : decode cX1_at 50 = .ok (.invokevirtual 46, 3) := by decide +kernel
theorem dX1_at_53 : decode cX1_at 53 = .ok (.ireturn, 1) := by decide +kernel
theorem dX1_at_54 : decode cX1_at 54 = .ok (.aload_n 0, 1) := by decide +kernel
theorem dX1_at_55 : decode cX1_at 55 = .ok (.getfield 22, 3) := by decide +kernel
theorem dX1_at_58 : decode cX1_at 58 = .ok (.iload_n 1, 1) := by decide +kernel
theorem dX1_at_59 : decode cX1_at 59 = .ok (.bipush 10, 2) := by decide +kernel
theorem dX1_at_61 : decode cX1_at 61 = .ok (.imul, 1) := by decide +kernel
theorem dX1_at_62 : decode cX1_at 62 = .ok (.iload_n 3, 1) := by decide +kernel
theorem dX1_at_63 : decode cX1_at 63 = .ok (.iadd, 1) := by decide +kernel
theorem dX1_at_64 : decode cX1_at 64 = .ok (.iaload, 1) := by decide +kernel
theorem dX1_at_65 : decode cX1_at 65 = .ok (.ireturn, 1) := by decide +kernel
set_option maxRecDepth 20000 in
theorem ggX1_deep_X1_isThing : GoodIn wsX1_deep wsX1_isThing := goodIn_r _ [6, 7, 26, 27, 28, 29, 30, 31, 32, 33, 34] (by decide +kernel) (by decide +kernel)
set_option maxRecDepth 20000 in
theorem gX1_deep_X1_isThing : GoodIn wsX1_deep (wsV RX1 50 RX1 yX1_isThing wsX1_isThing) := goodIn_app (goodIn_of _ (by decide +kernel)) ggX1_deep_X1_isThing
set_option maxRecDepth 20000 in
theorem ggX1_deep_X1_isOf : GoodIn wsX1_deep wsX1_isOf := goodIn_ca (goodIn_r _ [11, 12, 2, 3, 4, 5, 6, 7, 13, 14, 15, 26, 27, 28, 29, 30, 31, 32, 33, 34] (by decide +kernel) (by decide +kernel)) (goodIn_sub (fun _ h => List.mem_cons_of_mem _ (List.mem_append_right _ h)) (by decide +kernel))
set_option maxRecDepth 20000 in
theorem gX1_deep_X1_isOf : GoodIn wsX1_deep (wsV RX1 54 RX1 yX1_isOf wsX1_isOf) := goodIn_app (goodIn_of _ (by decide +kernel)) ggX1_deep_X1_isOf
set_option maxRecDepth 20000 in
theorem ggX1_deep_X1_found : GoodIn wsX1_deep wsX1_found := goodIn_ca (goodIn_r _ [19, 20, 26, 27, 28, 29, 30, 31, 32, 33, 34] (by decide +kernel) (by decide +kernel)) (goodIn_sub (fun _ h => List.mem_cons_of_mem _ (List.mem_append_right _ h)) (by decide +kernel))
set_option maxRecDepth 20000 in
theorem gX1_deep_X1_found : GoodIn wsX1_deep (wsV RX1 46 RX1 yX1_found wsX1_found) := goodIn_app (goodIn_of _ (by decide +kernel)) ggX1_deep_X1_found
set_option maxRecDepth 20000 in
theorem ggX1_deep_X1_hasPlace : GoodIn wsX1_deep wsX1_hasPlace := goodIn_ca (goodIn_r _ [24, 25, 26, 27, 28, 29, 30, 31, 32, 33, 34] (by decide +kernel) (by decide +kernel)) (goodIn_sub (fun _ h => List.mem_cons_of_mem _ (List.mem_append_right _ h)) (by decide +kernel))
set_option maxRecDepth 20000 in
theorem gX1_deep_X1_hasPlace : GoodIn wsX1_deep (wsV RX1 62 RX1 yX1_hasPlace wsX1_hasPlace) := goodIn_app (goodIn_of _ (by decide +kernel)) ggX1_deep_X1_hasPlace
theorem dX1_deep_0 : decode cX1_deep 0 = .ok (.aload_n 0, 1) := by decide +kernel
theorem dX1_deep_1 : decode cX1_deep 1 = .ok (.iload_n 1, 1) := by decide +kernel
theorem dX1_deep_2 : decode cX1_deep 2 = .ok (.invokevirtual 50, 3) := by decide +kernel
theorem dX1_deep_5 : decode cX1_deep 5 = .ok (.ifCond .ne 5, 3) := by decide +kernel
theorem dX1_deep_8 : decode cX1_deep 8 = .ok (.iconst (-1), 1) := by decide +kernel
theorem dX1_deep_9 : decode cX1_deep 9 = .ok (.ireturn, 1) := by decide +kernel
theorem dX1_deep_10 : decode cX1_deep 10 = .ok (.iload_n 2, 1) := by decide +kernel
theorem dX1_deep_11 : decode cX1_deep 11 = .ok (.bipush 9, 2) := by decide +kernel
theorem dX1_deep_13 : decode cX1_deep 13 = .ok (.if_icmp .eq 18, 3) := by decide +kernel
theorem dX1_deep_16 : decode cX1_deep 16 = .ok (.iload_n 2, 1) := by decide +kernel
theorem dX1_deep_17 : decode cX1_deep 17 = .ok (.bipush 15, 2) := by decide +kernel
theorem dX1_deep_19 : decode cX1_deep 19 = .ok (.if_icmp .eq 12, 3) := by decide +kernel
theorem dX1_deep_22 : decode cX1_deep 22 = .ok (.iload_n 2, 1) := by decide +kernel
theorem dX1_deep_23 : decode cX1_deep 23 = .ok (.bipush 16, 2) := by decide +kernel
theorem dX1_deep_25 : decode cX1_deep 25 = .ok (.if_icmp .eq 6, 3) := by decide +kernel
theorem dX1_deep_28 : decode cX1_deep 28 = .ok (.bipush (-2), 2) := by decide +kernel
theorem dX1_deep_30 : decode cX1_deep 30 = .ok (.ireturn, 1) := by decide +kernel
theorem dX1_deep_31 : decode cX1_deep 31 = .ok (.aload_n 0, 1) := by decide +kernel
theorem dX1_deep_32 : decode cX1_deep 32 = .ok (.iload_n 1, 1) := by decide +kernel
theorem dX1_deep_33 : decode cX1_deep 33 = .ok (.iload_n 2, 1) := by decide +kernel
theorem dX1_deep_34 : decode cX1_deep 34 = .ok (.invokevirtual 54, 3) := by decide +kernel
theorem dX1_deep_37 : decode cX1_deep 37 = .ok (.ifCond .ne 9, 3) := by decide +kernel
theorem dX1_deep_40 : decode cX1_deep 40 = .ok (.aload_n 0, 1) := by decide +kernel
theorem dX1_deep_41 : decode cX1_deep 41 = .ok (.iconst 1, 1) := by decide +kernel
theorem dX1_deep_42 : decode cX1_deep 42 = .ok (.invokevirtual 46, 3) := by decide +kernel
theorem dX1_deep_45 : decode cX1_deep 45 = .ok (.ireturn, 1) := by decide +kernel
theorem dX1_deep_46 : decode cX1_deep 46 = .ok (.aload_n 0, 1) := by decide +kernel
theorem dX1_deep_47 : decode cX1_deep 47 = .ok (.iload_n 1, 1) := by decide +kernel
theorem dX1_deep_48 : decode cX1_deep 48 = .ok (.iload_n 3, 1) := by decide +kernel
theorem dX1_deep_49 : decode cX1_deep 49 = .ok (.invokevirtual 62, 3) := by decide +kernel
theorem dX1_deep_52 : decode cX1_deep 52 = .ok (.ifCond .ne 9, 3) := by decide +kernel
theorem dX1_deep_55 : decode cX1_deep 55 = .ok (.aload_n 0, 1) := by decide +kernel
theorem dX1_deep_56 : decode cX1_deep 56 = .ok (.iconst 3, 1) := by decide +kernel
theorem dX1_deep_57 : decode cX1_deep 57 = .ok (.invokevirtual 46, 3) := by decide +kernel
theorem dX1_deep_60 : decode cX1_deep 60 = .ok (.ireturn, 1) := by decide +kernel
theorem dX1_deep_61 : decode cX1_deep 61 = .ok (.aload_n 0, 1) := by decide +kernel
theorem dX1_deep_62 : decode cX1_deep 62 = .ok (.getfield 22, 3) := by decide +kernel
theorem dX1_deep_65 : decode cX1_deep 65 = .ok (.iload_n 1, 1) := by decide +kernel
theorem dX1_deep_66 : decode cX1_deep 66 = .ok (.bipush 10, 2) := by decide +kernel
theorem dX1_deep_68 : decode cX1_deep 68 = .ok (.imul, 1) := by decide +kernel
theorem dX1_deep_69 : decode cX1_deep 69 = .ok (.iload_n 3, 1) := by decide +kernel
theorem dX1_deep_70 : decode cX1_deep 70 = .ok (.iadd, 1) := by decide +kernel
theorem dX1_deep_71 : decode cX1_deep 71 = .ok (.iaload, 1) := by decide +kernel
theorem dX1_deep_72 : decode cX1_deep 72 = .ok (.istore 5, 2) := by decide +kernel
theorem dX1_deep_74 : decode cX1_deep 74 = .ok (.aload_n 0, 1) := by decide +kernel
theorem dX1_deep_75 : decode cX1_deep 75 = .ok (.iload 5, 2) := by decide +kernel
theorem dX1_deep_77 : decode cX1_deep 77 = .ok (.invokevirtual 50, 3) := by decide +kernel
theorem dX1_deep_80 : decode cX1_deep 80 = .ok (.ifCond .ne 9, 3) := by decide +kernel
theorem dX1_deep_83 : decode cX1_deep 83 = .ok (.aload_n 0, 1) := by decide +kernel
theorem dX1_deep_84 : decode cX1_deep 84 = .ok (.iconst 2, 1) := by decide +kernel
theorem dX1_deep_85 : decode cX1_deep 85 = .ok (.invokevirtual 46, 3) := by decide +kernel
theorem dX1_deep_88 : decode cX1_deep 88 = .ok (.ireturn, 1) := by decide +kernel
theorem dX1_deep_89 : decode cX1_deep 89 = .ok (.aload_n 0, 1) := by decide +kernel
theorem dX1_deep_90 : decode cX1_deep 90 = .ok (.iload 5, 2) := by decide +kernel
theorem dX1_deep_92 : decode cX1_deep 92 = .ok (.iload 4, 2) := by decide +kernel
theorem dX1_deep_94 : decode cX1_deep 94 = .ok (.invokevirtual 62, 3) := by decide +kernel
theorem dX1_deep_97 : decode cX1_deep 97 = .ok (.ifCond .ne 9, 3) := by decide +kernel
theorem dX1_deep_100 : decode cX1_deep 100 = .ok (.aload_n 0, 1) := by decide +kernel
theorem dX1_deep_101 : decode cX1_deep 101 = .ok (.iconst 3, 1) := by decide +kernel
theorem dX1_deep_102 : decode cX1_deep 102 = .ok (.invokevirtual 46, 3) := by decide +kernel
theorem dX1_deep_105 : decode cX1_deep 105 = .ok (.ireturn, 1) := by decide +kernel
theorem dX1_deep_106 : decode cX1_deep 106 = .ok (.aload_n 0, 1) := by decide +kernel
theorem dX1_deep_107 : decode cX1_deep 107 = .ok (.getfield 22, 3) := by decide +kernel
theorem dX1_deep_110 : decode cX1_deep 110 = .ok (.iload 5, 2) := by decide +kernel
theorem dX1_deep_112 : decode cX1_deep 112 = .ok (.bipush 10, 2) := by decide +kernel
theorem dX1_deep_114 : decode cX1_deep 114 = .ok (.imul, 1) := by decide +kernel
theorem dX1_deep_115 : decode cX1_deep 115 = .ok (.iload 4, 2) := by decide +kernel
theorem dX1_deep_117 : decode cX1_deep 117 = .ok (.iadd, 1) := by decide +kernel
theorem dX1_deep_118 : decode cX1_deep 118 = .ok (.iaload, 1) := by decide +kernel
theorem dX1_deep_119 : decode cX1_deep 119 = .ok (.ireturn, 1) := by decide +kernel
set_option maxRecDepth 20000 in
theorem ggX1_fill_X1_isCase : GoodIn wsX1_fill wsX1_isCase := goodIn_ca (goodIn_r _ [6, 7, 8, 9, 10, 5, 11, 12, 21, 22, 23, 24, 25, 26, 27, 28, 29] (by decide +kernel) (by decide +kernel)) (goodIn_sub (fun _ h => List.mem_cons_of_mem _ (List.mem_append_right _ h)) (by decide +kernel))
set_option maxRecDepth 20000 in
theorem gX1_fill_X1_isCase : GoodIn wsX1_fill (wsV RX1 90 RX1 yX1_isCase wsX1_isCase) := goodIn_app (goodIn_of _ (by decide +kernel)) ggX1_fill_X1_isCase
set_option maxRecDepth 20000 in
theorem ggX1_fill_X1_isThingOrNone : GoodIn wsX1_fill wsX1_isThingOrNone := goodIn_r _ [16, 8, 9, 10, 5, 11, 12, 21, 22, 23, 24, 25, 26, 27, 28, 29] (by decide +kernel) (by decide +kernel)
set_option maxRecDepth 20000 in
theorem gX1_fill_X1_isThingOrNone : GoodIn wsX1_fill (wsV RX1 81 RX1 yX1_isThingOrNone wsX1_isThingOrNone) := goodIn_app (goodIn_of _ (by decide +kernel)) ggX1_fill_X1_isThingOrNone
set_option maxRecDepth 20000 in
theorem ggX1_fill_X1_leadsTo : GoodIn wsX1_fill wsX1_leadsTo := goodIn_ca (goodIn_r _ [20, 1, 2, 3, 4, 5, 6, 7, 8, 9, 10, 11, 12, 21, 22, 23, 24, 25, 26, 27, 28, 29] (by decide +kernel) (by decide +kernel)) (goodIn_sub (fun _ h => List.mem_cons_of_mem _ (List.mem_append_right _ h)) (by decide +kernel))
set_option maxRecDepth 20000 in
theorem gX1_fill_X1_leadsTo : GoodIn wsX1_fill (wsV RX1 93 RX1 yX1_leadsTo wsX1_leadsTo) := goodIn_app (goodIn_of _ (by decide +kernel)) ggX1_fill_X1_leadsTo
theorem dX1_fill_0 : decode cX1_fill 0 = .ok (.aload_n 0, 1) := by decide +kernel
theorem dX1_fill_1 : decode cX1_fill 1 = .ok (.iload_n 1, 1) := by decide +kernel
theorem dX1_fill_2 : decode cX1_fill 2 = .ok (.invokevirtual 90, 3) := by decide +kernel
theorem dX1_fill_5 : decode cX1_fill 5 = .ok (.ifCond .eq 11, 3) := by decide +kernel
theorem dX1_fill_8 : decode cX1_fill 8 = .ok (.aload_n 0, 1) := by decide +kernel
theorem dX1_fill_9 : decode cX1_fill 9 = .ok (.iload_n 2, 1) := by decide +kernel
theorem dX1_fill_10 : decode cX1_fill 10 = .ok (.invokevirtual 81, 3) := by decide +kernel
theorem dX1_fill_13 : decode cX1_fill 13 = .ok (.ifCond .ne 5, 3) := by decide +kernel
theorem dX1_fill_16 : decode cX1_fill 16 = .ok (.iconst (-1), 1) := by decide +kernel
theorem dX1_fill_17 : decode cX1_fill 17 = .ok (.ireturn, 1) := by decide +kernel
theorem dX1_fill_18 : decode cX1_fill 18 = .ok (.aload_n 0, 1) := by decide +kernel
theorem dX1_fill_19 : decode cX1_fill 19 = .ok (.iload_n 2, 1) := by decide +kernel
theorem dX1_fill_20 : decode cX1_fill 20 = .ok (.iload_n 1, 1) := by decide +kernel
theorem dX1_fill_21 : decode cX1_fill 21 = .ok (.invokevirtual 93, 3) := by decide +kernel
theorem dX1_fill_24 : decode cX1_fill 24 = .ok (.ifCond .eq 6, 3) := by decide +kernel
theorem dX1_fill_27 : decode cX1_fill 27 = .ok (.bipush (-3), 2) := by decide +kernel
theorem dX1_fill_29 : decode cX1_fill 29 = .ok (.ireturn, 1) := by decide +kernel
theorem dX1_fill_30 : decode cX1_fill 30 = .ok (.aload_n 0, 1) := by decide +kernel
theorem dX1_fill_31 : decode cX1_fill 31 = .ok (.getfield 19, 3) := by decide +kernel
theorem dX1_fill_34 : decode cX1_fill 34 = .ok (.iload_n 1, 1) := by decide +kernel
theorem dX1_fill_35 : decode cX1_fill 35 = .ok (.iaload, 1) := by decide +kernel
theorem dX1_fill_36 : decode cX1_fill 36 = .ok (.istore_n 3, 1) := by decide +kernel
theorem dX1_fill_37 : decode cX1_fill 37 = .ok (.aload_n 0, 1) := by decide +kernel
theorem dX1_fill_38 : decode cX1_fill 38 = .ok (.getfield 19, 3) := by decide +kernel
theorem dX1_fill_41 : decode cX1_fill 41 = .ok (.iload_n 1, 1) := by decide +kernel
theorem dX1_fill_42 : decode cX1_fill 42 = .ok (.iload_n 2, 1) := by decide +kernel
theorem dX1_fill_43 : decode cX1_fill 43 = .ok (.iastore, 1) := by decide +kernel
theorem dX1_fill_44 : decode cX1_fill 44 = .ok (.iload_n 3, 1) := by decide +kernel
theorem dX1_fill_45 : decode cX1_fill 45 = .ok (.ireturn, 1) := by decide +kernel
set_option maxRecDepth 20000 in
theorem ggX1_held_X1_isCase : GoodIn wsX1_held wsX1_isCase := goodIn_ca (goodIn_r _ [6, 7, 8, 9, 10, 5, 11, 12, 13, 14, 15, 16, 17, 18, 19, 20, 21] (by decide +kernel) (by decide +kernel)) (goodIn_sub (fun _ h => List.mem_cons_of_mem _ (List.mem_append_right _ h)) (by decide +kernel))
set_option maxRecDepth 20000 in
theorem gX1_held_X1_isCase : GoodIn wsX1_held (wsV RX1 90 RX1 yX1_isCase wsX1_isCase) := goodIn_app (goodIn_of _ (by decide +kernel)) ggX1_held_X1_isCase
theorem dX1_held_0 : decode cX1_held 0 = .ok (.aload_n 0, 1) := by decide +kernel
theorem dX1_held_1 : decode cX1_held 1 = .ok (.iload_n 1, 1) := by decide +kernel
theorem dX1_held_2 : decode cX1_held 2 = .ok (.invokevirtual 90, 3) := by decide +kernel
theorem dX1_held_5 : decode cX1_held 5 = .ok (.ifCond .eq 12, 3) := by decide +kernel
theorem dX1_held_8 : decode cX1_held 8 = .ok (.aload_n 0, 1) := by decide +kernel
theorem dX1_held_9 : decode cX1_held 9 = .ok (.getfield 19, 3) := by decide +kernel
theorem dX1_held_12 : decode cX1_held 12 = .ok (.iload_n 1, 1) := by decide +kernel
theorem dX1_held_13 : decode cX1_held 13 = .ok (.iaload, 1) := by decide +kernel
theorem dX1_held_14 : decode cX1_held 14 = .ok (.goto 4, 3) := by decide +kernel
theorem dX1_held_17 : decode cX1_held 17 = .ok (.iconst (-1), 1) := by decide +kernel
theorem dX1_held_18 : decode cX1_held 18 = .ok (.ireturn, 1) := by decide +kernel
set_option maxRecDepth 20000 in
theorem ggX1_innermost_X1_isCase : GoodIn wsX1_innermost wsX1_isCase := goodIn_ca (goodIn_r _ [5, 6, 7, 8, 9, 4, 10, 11, 27, 28, 29, 30, 31, 32, 33, 34, 35] (by decide +kernel) (by decide +kernel)) (goodIn_sub (fun _ h => List.mem_cons_of_mem _ (List.mem_append_right _ h)) (by decide +kernel))
set_option maxRecDepth 20000 in
theorem gX1_innermost_X1_isCase : GoodIn wsX1_innermost (wsV RX1 90 RX1 yX1_isCase wsX1_isCase) := goodIn_app (goodIn_of _ (by decide +kernel)) ggX1_innermost_X1_isCase
set_option maxRecDepth 20000 in
theorem ggX1_innermost_X1_between : GoodIn wsX1_innermost wsX1_between := goodIn_r _ [14] (by decide +kernel) (by decide +kernel)
set_option maxRecDepth 20000 in
theorem gX1_innermost_X1_between : GoodIn wsX1_innermost (va_wsS RX1 34 yX1_between wsX1_between) := goodIn_app (goodIn_of _ (by decide +kernel)) ggX1_innermost_X1_between
set_option maxRecDepth 20000 in
theorem ggX1_innermost_X1_innermostOf : GoodIn wsX1_innermost wsX1_innermostOf := goodIn_ca (goodIn_r _ [18, 19, 1, 2, 3, 4, 5, 6, 7, 8, 9, 10, 11, 27, 28, 29, 30, 31, 32, 33, 34, 35] (by decide +kernel) (by decide +kernel)) (goodIn_sub (fun _ h => List.mem_cons_of_mem _ (List.mem_append_right _ h)) (by decide +kernel))
set_option maxRecDepth 20000 in
theorem gX1_innermost_X1_innermostOf : GoodIn wsX1_innermost (wsV RX1 96 RX1 yX1_innermostOf wsX1_innermostOf) := goodIn_app (goodIn_of _ (by decide +kernel)) ggX1_innermost_X1_innermostOf
set_option maxRecDepth 20000 in
theorem ggX1_innermost_X1_isOf : GoodIn wsX1_innermost wsX1_isOf := goodIn_ca (goodIn_r _ [23, 6, 7, 8, 9, 4, 10, 11, 24, 25, 26, 27, 28, 29, 30, 31, 32, 33, 34, 35] (by decide +kernel) (by decide +kernel)) (goodIn_sub (fun _ h => List.mem_cons_of_mem _ (List.mem_append_right _ h)) (by decide +kernel))
set_option maxRecDepth 20000 in
theorem gX1_innermost_X1_isOf : GoodIn wsX1_innermost (wsV RX1 54 RX1 yX1_isOf wsX1_isOf) := goodIn_app (goodIn_of _ (by decide +kernel)) ggX1_innermost_X1_isOf
theorem dX1_innermost_0 : decode cX1_innermost 0 = .ok (.aload_n 0, 1) := by decide +kernel
theorem dX1_innermost_1 : decode cX1_innermost 1 = .ok (.iload_n 1, 1) := by decide +kernel
theorem dX1_innermost_2 : decode cX1_innermost 2 = .ok (.invokevirtual 90, 3) := by decide +kernel
theorem dX1_innermost_5 : decode cX1_innermost 5 = .ok (.ifCond .ne 5, 3) := by decide +kernel
theorem dX1_innermost_8 : decode cX1_innermost 8 = .ok (.iconst (-1), 1) := by decide +kernel
theorem dX1_innermost_9 : decode cX1_innermost 9 = .ok (.ireturn, 1) := by decide +kernel
theorem dX1_innermost_10 : decode cX1_innermost 10 = .ok (.iload_n 2, 1) := by decide +kernel
theorem dX1_innermost_11 : decode cX1_innermost 11 = .ok (.iconst 0, 1) := by decide +kernel
theorem dX1_innermost_12 : decode cX1_innermost 12 = .ok (.bipush 20, 2) := by decide +kernel
theorem dX1_innermost_14 : decode cX1_innermost 14 = .ok (.invokestatic 34, 3) := by decide +kernel
theorem dX1_innermost_17 : decode cX1_innermost 17 = .ok (.ifCond .ne 6, 3) := by decide +kernel
theorem dX1_innermost_20 : decode cX1_innermost 20 = .ok (.bipush (-2), 2) := by decide +kernel
theorem dX1_innermost_22 : decode cX1_innermost 22 = .ok (.ireturn, 1) := by decide +kernel
theorem dX1_innermost_23 : decode cX1_innermost 23 = .ok (.aload_n 0, 1) := by decide +kernel
theorem dX1_innermost_24 : decode cX1_innermost 24 = .ok (.aload_n 0, 1) := by decide +kernel
theorem dX1_innermost_25 : decode cX1_innermost 25 = .ok (.iload_n 1, 1) := by decide +kernel
theorem dX1_innermost_26 : decode cX1_innermost 26 = .ok (.invokevirtual 96, 3) := by decide +kernel
theorem dX1_innermost_29 : decode cX1_innermost 29 = .ok (.iload_n 2, 1) := by decide +kernel
theorem dX1_innermost_30 : decode cX1_innermost 30 = .ok (.invokevirtual 54, 3) := by decide +kernel
theorem dX1_innermost_33 : decode cX1_innermost 33 = .ok (.ifCond .eq 7, 3) := by decide +kernel
theorem dX1_innermost_36 : decode cX1_innermost 36 = .ok (.iconst 1, 1) := by decide +kernel
theorem dX1_innermost_37 : decode cX1_innermost 37 = .ok (.goto 4, 3) := by decide +kernel
theorem dX1_innermost_40 : decode cX1_innermost 40 = .ok (.iconst 0, 1) := by decide +kernel
theorem dX1_innermost_41 : decode cX1_innermost 41 = .ok (.ireturn, 1) := by decide +kernel
set_option maxRecDepth 20000 in
theorem ggX1_depth_X1_isCase : GoodIn wsX1_depth wsX1_isCase := goodIn_ca (goodIn_r _ [6, 7, 8, 9, 10, 5, 11, 12, 13, 14, 15, 16, 17, 18, 19, 20, 21] (by decide +kernel) (by decide +kernel)) (goodIn_sub (fun _ h => List.mem_cons_of_mem _ (List.mem_append_right _ h)) (by decide +kernel))
set_option maxRecDepth 20000 in
theorem gX1_depth_X1_isCase : GoodIn wsX1_depth (wsV RX1 90 RX1 yX1_isCase wsX1_isCase) := goodIn_app (goodIn_of _ (by decide +kernel)) ggX1_depth_X1_isCase
theorem dX1_depth_0 : decode cX1_depth 0 = .ok (.aload_n 0, 1) := by decide +kernel
theorem dX1_depth_1 : decode cX1_depth 1 = .ok (.iload_n 1, 1) := by decide +kernel
theorem dX1_depth_2 : decode cX1_depth 2 = .ok (.invokevirtual 90, 3) := by decide +kernel
theorem dX1_depth_5 : decode cX1_depth 5 = .ok (.ifCond .ne 5, 3) := by decide +kernel
theorem dX1_depth_8 : decode cX1_depth 8 = .ok (.iconst (-1), 1) := by decide +kernel
theorem dX1_depth_9 : decode cX1_depth 9 = .ok (.ireturn, 1) := by decide +kernel
theorem dX1_depth_10 : decode cX1_depth 10 = .ok (.iconst 1, 1) := by decide +kernel
theorem dX1_depth_11 : decode cX1_depth 11 = .ok (.istore_n 2, 1) := by decide +kernel
theorem dX1_depth_12 : decode cX1_depth 12 = .ok (.aload_n 0, 1) := by decide +kernel
theorem dX1_depth_13 : decode cX1_depth 13 = .ok (.getfield 19, 3) := by decide +kernel
theorem dX1_depth_16 : decode cX1_depth 16 = .ok (.iload_n 1, 1) := by decide +kernel
theorem dX1_depth_17 : decode cX1_depth 17 = .ok (.iaload, 1) := by decide +kernel
theorem dX1_depth_18 : decode cX1_depth 18 = .ok (.istore_n 3, 1) := by decide +kernel
theorem dX1_depth_19 : decode cX1_depth 19 = .ok (.iload_n 2, 1) := by decide +kernel
theorem dX1_depth_20 : decode cX1_depth 20 = .ok (.bipush 110, 2) := by decide +kernel
theorem dX1_depth_22 : decode cX1_depth 22 = .ok (.if_icmp .ge 24, 3) := by decide +kernel
theorem dX1_depth_25 : decode cX1_depth 25 = .ok (.aload_n 0, 1) := by decide +kernel
theorem dX1_depth_26 : decode cX1_depth 26 = .ok (.iload_n 3, 1) := by decide +kernel
theorem dX1_depth_27 : decode cX1_depth 27 = .ok (.invokevirtual 90, 3) := by decide +kernel
theorem dX1_depth_30 : decode cX1_depth 30 = .ok (.ifCond .eq 16, 3) := by decide +kernel
theorem dX1_depth_33 : decode cX1_depth 33 = .ok (.aload_n 0, 1) := by decide +kernel
theorem dX1_depth_34 : decode cX1_depth 34 = .ok (.getfield 19, 3) := by decide +kernel
theorem dX1_depth_37 : decode cX1_depth 37 = .ok (.iload_n 3, 1) := by decide +kernel
theorem dX1_depth_38 : decode cX1_depth 38 = .ok (.iaload, 1) := by decide +kernel
theorem dX1_depth_39 : decode cX1_depth 39 = .ok (.istore_n 3, 1) := by decide +kernel
theorem dX1_depth_40 : decode cX1_depth 40 = .ok (.iinc 2 1, 3) := by decide +kernel
theorem dX1_depth_43 : decode cX1_depth 43 = .ok (.goto (-24), 3) := by decide +kernel
theorem dX1_depth_46 : decode cX1_depth 46 = .ok (.iload_n 2, 1) := by decide +kernel
theorem dX1_depth_47 : decode cX1_depth 47 = .ok (.ireturn, 1) := by decide +kernel
set_option maxRecDepth 20000 in
theorem ggX1_inside_X1_isCase : GoodIn wsX1_inside wsX1_isCase := goodIn_ca (goodIn_r _ [7, 1, 8, 9, 10, 6, 11, 12, 33, 34, 35, 36, 37, 38, 39, 40, 41] (by decide +kernel) (by decide +kernel)) (goodIn_sub (fun _ h => List.mem_cons_of_mem _ (List.mem_append_right _ h)) (by decide +kernel))
set_option maxRecDepth 20000 in
theorem gX1_inside_X1_isCase : GoodIn wsX1_inside (wsV RX1 90 RX1 yX1_isCase wsX1_isCase) := goodIn_app (goodIn_of _ (by decide +kernel)) ggX1_inside_X1_isCase
set_option maxRecDepth 20000 in
theorem ggX1_inside_X1_innermostOf : GoodIn wsX1_inside wsX1_innermostOf := goodIn_ca (goodIn_r _ [16, 17, 3, 4, 5, 6, 7, 1, 8, 9, 10, 11, 12, 33, 34, 35, 36, 37, 38, 39, 40, 41] (by decide +kernel) (by decide +kernel)) (goodIn_sub (fun _ h => List.mem_cons_of_mem _ (List.mem_append_right _ h)) (by decide +kernel))
set_option maxRecDepth 20000 in
theorem gX1_inside_X1_innermostOf : GoodIn wsX1_inside (wsV RX1 96 RX1 yX1_innermostOf wsX1_innermostOf) := goodIn_app (goodIn_of _ (by decide +kernel)) ggX1_inside_X1_innermostOf
set_option maxRecDepth 20000 in
theorem ggX1_inside_X1_isThing : GoodIn wsX1_inside wsX1_isThing := goodIn_r _ [11, 12, 33, 34, 35, 36, 37, 38, 39, 40, 41] (by decide +kernel) (by decide +kernel)
set_option maxRecDepth 20000 in
theorem gX1_inside_X1_isThing : GoodIn wsX1_inside (wsV RX1 50 RX1 yX1_isThing wsX1_isThing) := goodIn_app (goodIn_of _ (by decide +kernel)) ggX1_inside_X1_isThing
set_option maxRecDepth 20000 in
theorem ggX1_inside_X1_found : GoodIn wsX1_inside wsX1_found := goodIn_ca (goodIn_r _ [21, 22, 33, 34, 35, 36, 37, 38, 39, 40, 41] (by decide +kernel) (by decide +kernel)) (goodIn_sub (fun _ h => List.mem_cons_of_mem _ (List.mem_append_right _ h)) (by decide +kernel))
set_option maxRecDepth 20000 in
theorem gX1_inside_X1_found : GoodIn wsX1_inside (wsV RX1 46 RX1 yX1_found wsX1_found) := goodIn_app (goodIn_of _ (by decide +kernel)) ggX1_inside_X1_found
set_option maxRecDepth 20000 in
theorem ggX1_inside_X1_isOf : GoodIn wsX1_inside wsX1_isOf := goodIn_ca (goodIn_r _ [26, 1, 8, 9, 10, 6, 11, 12, 27, 28, 29, 33, 34, 35, 36, 37, 38, 39, 40, 41] (by decide +kernel) (by decide +kernel)) (goodIn_sub (fun _ h => List.mem_cons_of_mem _ (List.mem_append_right _ h)) (by decide +kernel))
set_option maxRecDepth 20000 in
theorem gX1_inside_X1_isOf : GoodIn wsX1_inside (wsV RX1 54 RX1 yX1_isOf wsX1_isOf) := goodIn_app (goodIn_of _ (by decide +kernel)) ggX1_inside_X1_isOf
set_option maxRecDepth 20000 in
theorem ggX1_inside_X1_worthOf : GoodIn wsX1_inside wsX1_worthOf := goodIn_r _ [32] (by decide +kernel) (by decide +kernel)
set_option maxRecDepth 20000 in
theorem gX1_inside_X1_worthOf : GoodIn wsX1_inside (va_wsS RX1 58 yX1_worthOf wsX1_worthOf) := goodIn_app (goodIn_of _ (by decide +kernel)) ggX1_inside_X1_worthOf
theorem dX1_inside_0 : decode cX1_inside 0 = .ok (.aload_n 0, 1) := by decide +kernel
theorem dX1_inside_1 : decode cX1_inside 1 = .ok (.iload_n 1, 1) := by decide +kernel
theorem dX1_inside_2 : decode cX1_inside 2 = .ok (.invokevirtual 90, 3) := by decide +kernel
theorem dX1_inside_5 : decode cX1_inside 5 = .ok (.ifCond .ne 5, 3) := by decide +kernel
theorem dX1_inside_8 : decode cX1_inside 8 = .ok (.iconst (-1), 1) := by decide +kernel
theorem dX1_inside_9 : decode cX1_inside 9 = .ok (.ireturn, 1) := by decide +kernel
theorem dX1_inside_10 : decode cX1_inside 10 = .ok (.aload_n 0, 1) := by decide +kernel
theorem dX1_inside_11 : decode cX1_inside 11 = .ok (.iload_n 1, 1) := by decide +kernel
theorem dX1_inside_12 : decode cX1_inside 12 = .ok (.invokevirtual 96, 3) := by decide +kernel
theorem dX1_inside_15 : decode cX1_inside 15 = .ok (.istore_n 2, 1) := by decide +kernel
theorem dX1_inside_16 : decode cX1_inside 16 = .ok (.aload_n 0, 1) := by decide +kernel
theorem dX1_inside_17 : decode cX1_inside 17 = .ok (.iload_n 2, 1) := by decide +kernel
theorem dX1_inside_18 : decode cX1_inside 18 = .ok (.invokevirtual 50, 3) := by decide +kernel
theorem dX1_inside_21 : decode cX1_inside 21 = .ok (.ifCond .ne 9, 3) := by decide +kernel
theorem dX1_inside_24 : decode cX1_inside 24 = .ok (.aload_n 0, 1) := by decide +kernel
theorem dX1_inside_25 : decode cX1_inside 25 = .ok (.iconst 2, 1) := by decide +kernel
theorem dX1_inside_26 : decode cX1_inside 26 = .ok (.invokevirtual 46, 3) := by decide +kernel
theorem dX1_inside_29 : decode cX1_inside 29 = .ok (.ireturn, 1) := by decide +kernel
theorem dX1_inside_30 : decode cX1_inside 30 = .ok (.aload_n 0, 1) := by decide +kernel
theorem dX1_inside_31 : decode cX1_inside 31 = .ok (.iload_n 2, 1) := by decide +kernel
theorem dX1_inside_32 : decode cX1_inside 32 = .ok (.iconst 0, 1) := by decide +kernel
theorem dX1_inside_33 : decode cX1_inside 33 = .ok (.invokevirtual 54, 3) := by decide +kernel
theorem dX1_inside_36 : decode cX1_inside 36 = .ok (.ifCond .ne 9, 3) := by decide +kernel
theorem dX1_inside_39 : decode cX1_inside 39 = .ok (.aload_n 0, 1) := by decide +kernel
theorem dX1_inside_40 : decode cX1_inside 40 = .ok (.iconst 1, 1) := by decide +kernel
theorem dX1_inside_41 : decode cX1_inside 41 = .ok (.invokevirtual 46, 3) := by decide +kernel
theorem dX1_inside_44 : decode cX1_inside 44 = .ok (.ireturn, 1) := by decide +kernel
theorem dX1_inside_45 : decode cX1_inside 45 = .ok (.aload_n 0, 1) := by decide +kernel
theorem dX1_inside_46 : decode cX1_inside 46 = .ok (.getfield 9, 3) := by decide +kernel
theorem dX1_inside_49 : decode cX1_inside 49 = .ok (.iload_n 2, 1) := by decide +kernel
theorem dX1_inside_50 : decode cX1_inside 50 = .ok (.iaload, 1) := by decide +kernel
theorem dX1_inside_51 : decode cX1_inside 51 = .ok (.aload_n 0, 1) := by decide +kernel
theorem dX1_inside_52 : decode cX1_inside 52 = .ok (.getfield 13, 3) := by decide +kernel
theorem dX1_inside_55 : decode cX1_inside 55 = .ok (.iload_n 2, 1) := by decide +kernel
theorem dX1_inside_56 : decode cX1_inside 56 = .ok (.iaload, 1) := by decide +kernel
theorem dX1_inside_57 : decode cX1_inside 57 = .ok (.invokestatic 58, 3) := by decide +kernel
theorem dX1_inside_60 : decode cX1_inside 60 = .ok (.ireturn, 1) := by decide +kernel
set_option maxRecDepth 20000 in
theorem ggX1_loan_X0_init : GoodIn wsX1_loan wsX0_init := goodIn_ca (goodIn_r _ [7, 8, 9, 10, 11, 12, 13, 14, 15, 16, 17, 27, 28, 29, 30, 31, 32] (by decide +kernel) (by decide +kernel)) (goodIn_sub (fun _ h => List.mem_cons_of_mem _ (List.mem_append_right _ h)) (by decide +kernel))
set_option maxRecDepth 20000 in
theorem gX1_loan_X0_init_n102 : GoodIn wsX1_loan (wsX0_init) := ggX1_loan_X0_init
theorem dX1_loan_0 : decode cX1_loan 0 = .ok (.aload_n 0, 1) := by decide +kernel
theorem dX1_loan_1 : decode cX1_loan 1 = .ok (.getfield 99, 3) := by decide +kernel
theorem dX1_loan_4 : decode cX1_loan 4 = .ok (.bipush 8, 2) := by decide +kernel
theorem dX1_loan_6 : decode cX1_loan 6 = .ok (.if_icmp .lt 6, 3) := by decide +kernel
theorem dX1_loan_9 : decode cX1_loan 9 = .ok (.bipush (-4), 2) := by decide +kernel
theorem dX1_loan_11 : decode cX1_loan 11 = .ok (.ireturn, 1) := by decide +kernel
theorem dX1_loan_12 : decode cX1_loan 12 = .ok (.aload_n 0, 1) := by decide +kernel
theorem dX1_loan_13 : decode cX1_loan 13 = .ok (.getfield 27, 3) := by decide +kernel
theorem dX1_loan_16 : decode cX1_loan 16 = .ok (.aload_n 0, 1) := by decide +kernel
theorem dX1_loan_17 : decode cX1_loan 17 = .ok (.getfield 99, 3) := by decide +kernel
theorem dX1_loan_20 : decode cX1_loan 20 = .ok (.new 25, 3) := by decide +kernel
theorem dX1_loan_23 : decode cX1_loan 23 = .ok (.dup, 1) := by decide +kernel
theorem dX1_loan_24 : decode cX1_loan 24 = .ok (.invokespecial 102, 3) := by decide +kernel
theorem dX1_loan_27 : decode cX1_loan 27 = .ok (.aastore, 1) := by decide +kernel
theorem dX1_loan_28 : decode cX1_loan 28 = .ok (.aload_n 0, 1) := by decide +kernel
theorem dX1_loan_29 : decode cX1_loan 29 = .ok (.dup, 1) := by decide +kernel
theorem dX1_loan_30 : decode cX1_loan 30 = .ok (.getfield 99, 3) := by decide +kernel
theorem dX1_loan_33 : decode cX1_loan 33 = .ok (.iconst 1, 1) := by decide +kernel
theorem dX1_loan_34 : decode cX1_loan 34 = .ok (.iadd, 1) := by decide +kernel
theorem dX1_loan_35 : decode cX1_loan 35 = .ok (.putfield 99, 3) := by decide +kernel
theorem dX1_loan_38 : decode cX1_loan 38 = .ok (.aload_n 0, 1) := by decide +kernel
theorem dX1_loan_39 : decode cX1_loan 39 = .ok (.getfield 99, 3) := by decide +kernel
theorem dX1_loan_42 : decode cX1_loan 42 = .ok (.iconst 1, 1) := by decide +kernel
theorem dX1_loan_43 : decode cX1_loan 43 = .ok (.isub, 1) := by decide +kernel
theorem dX1_loan_44 : decode cX1_loan 44 = .ok (.ireturn, 1) := by decide +kernel
set_option maxRecDepth 20000 in
theorem ggX1_want_X1_loanOf : GoodIn wsX1_want wsX1_loanOf := goodIn_r _ [5, 6, 7, 27, 28, 29, 30, 31, 32, 33, 34, 35] (by decide +kernel) (by decide +kernel)
set_option maxRecDepth 20000 in
theorem gX1_want_X1_loanOf : GoodIn wsX1_want (wsV RX1 103 RX1 yX1_loanOf wsX1_loanOf) := goodIn_app (goodIn_of _ (by decide +kernel)) ggX1_want_X1_loanOf
set_option maxRecDepth 20000 in
theorem ggX1_want_X1_isCase : GoodIn wsX1_want wsX1_isCase := goodIn_ca (goodIn_r _ [11, 12, 13, 14, 15, 4, 16, 17, 27, 28, 29, 30, 31, 32, 33, 34, 35] (by decide +kernel) (by decide +kernel)) (goodIn_sub (fun _ h => List.mem_cons_of_mem _ (List.mem_append_right _ h)) (by decide +kernel))
set_option maxRecDepth 20000 in
theorem gX1_want_X1_isCase : GoodIn wsX1_want (wsV RX1 90 RX1 yX1_isCase wsX1_isCase) := goodIn_app (goodIn_of _ (by decide +kernel)) ggX1_want_X1_isCase
set_option maxRecDepth 20000 in
theorem ggX1_want_X1_between : GoodIn wsX1_want wsX1_between := goodIn_r _ [20] (by decide +kernel) (by decide +kernel)
set_option maxRecDepth 20000 in
theorem gX1_want_X1_between : GoodIn wsX1_want (va_wsS RX1 34 yX1_between wsX1_between) := goodIn_app (goodIn_of _ (by decide +kernel)) ggX1_want_X1_between
theorem dX1_want_0 : decode cX1_want 0 = .ok (.aload_n 0, 1) := by decide +kernel
theorem dX1_want_1 : decode cX1_want 1 = .ok (.iload_n 1, 1) := by decide +kernel
theorem dX1_want_2 : decode cX1_want 2 = .ok (.invokevirtual 103, 3) := by decide +kernel
theorem dX1_want_5 : decode cX1_want 5 = .ok (.astore 4, 2) := by decide +kernel
theorem dX1_want_7 : decode cX1_want 7 = .ok (.aload 4, 2) := by decide +kernel
theorem dX1_want_9 : decode cX1_want 9 = .ok (.ifnull 11, 3) := by decide +kernel
theorem dX1_want_12 : decode cX1_want 12 = .ok (.aload_n 0, 1) := by decide +kernel
theorem dX1_want_13 : decode cX1_want 13 = .ok (.iload_n 2, 1) := by decide +kernel
theorem dX1_want_14 : decode cX1_want 14 = .ok (.invokevirtual 90, 3) := by decide +kernel
theorem dX1_want_17 : decode cX1_want 17 = .ok (.ifCond .ne 5, 3) := by decide +kernel
theorem dX1_want_20 : decode cX1_want 20 = .ok (.iconst (-1), 1) := by decide +kernel
theorem dX1_want_21 : decode cX1_want 21 = .ok (.ireturn, 1) := by decide +kernel
theorem dX1_want_22 : decode cX1_want 22 = .ok (.iload_n 3, 1) := by decide +kernel
theorem dX1_want_23 : decode cX1_want 23 = .ok (.iconst 0, 1) := by decide +kernel
theorem dX1_want_24 : decode cX1_want 24 = .ok (.bipush 20, 2) := by decide +kernel
theorem dX1_want_26 : decode cX1_want 26 = .ok (.invokestatic 34, 3) := by decide +kernel
theorem dX1_want_29 : decode cX1_want 29 = .ok (.ifCond .ne 6, 3) := by decide +kernel
theorem dX1_want_32 : decode cX1_want 32 = .ok (.bipush (-2), 2) := by decide +kernel
theorem dX1_want_34 : decode cX1_want 34 = .ok (.ireturn, 1) := by decide +kernel
theorem dX1_want_35 : decode cX1_want 35 = .ok (.aload 4, 2) := by decide +kernel
theorem dX1_want_37 : decode cX1_want 37 = .ok (.getfield 107, 3) := by decide +kernel
theorem dX1_want_40 : decode cX1_want 40 = .ok (.ifCond .eq 6, 3) := by decide +kernel
theorem dX1_want_43 : decode cX1_want 43 = .ok (.bipush (-3), 2) := by decide +kernel
theorem dX1_want_45 : decode cX1_want 45 = .ok (.ireturn, 1) := by decide +kernel
theorem dX1_want_46 : decode cX1_want 46 = .ok (.aload 4, 2) := by decide +kernel
theorem dX1_want_48 : decode cX1_want 48 = .ok (.getfield 110, 3) := by decide +kernel
theorem dX1_want_51 : decode cX1_want 51 = .ok (.bipush 8, 2) := by decide +kernel
theorem dX1_want_53 : decode cX1_want 53 = .ok (.if_icmp .lt 6, 3) := by decide +kernel
theorem dX1_want_56 : decode cX1_want 56 = .ok (.bipush (-4), 2) := by decide +kernel
theorem dX1_want_58 : decode cX1_want 58 = .ok (.ireturn, 1) := by decide +kernel
theorem dX1_want_59 : decode cX1_want 59 = .ok (.aload 4, 2) := by decide +kernel
theorem dX1_want_61 : decode cX1_want 61 = .ok (.getfield 113, 3) := by decide +kernel
theorem dX1_want_64 : decode cX1_want 64 = .ok (.aload 4, 2) := by decide +kernel
theorem dX1_want_66 : decode cX1_want 66 = .ok (.getfield 110, 3) := by decide +kernel
theorem dX1_want_69 : decode cX1_want 69 = .ok (.iload_n 2, 1) := by decide +kernel
theorem dX1_want_70 : decode cX1_want 70 = .ok (.iastore, 1) := by decide +kernel
theorem dX1_want_71 : decode cX1_want 71 = .ok (.aload 4, 2) := by decide +kernel
theorem dX1_want_73 : decode cX1_want 73 = .ok (.getfield 116, 3) := by decide +kernel
theorem dX1_want_76 : decode cX1_want 76 = .ok (.aload 4, 2) := by decide +kernel
theorem dX1_want_78 : decode cX1_want 78 = .ok (.getfield 110, 3) := by decide +kernel
theorem dX1_want_81 : decode cX1_want 81 = .ok (.iload_n 3, 1) := by decide +kernel
theorem dX1_want_82 : decode cX1_want 82 = .ok (.iastore, 1) := by decide +kernel
theorem dX1_want_83 : decode cX1_want 83 = .ok (.aload 4, 2) := by decide +kernel
theorem dX1_want_85 : decode cX1_want 85 = .ok (.dup, 1) := by decide +kernel
theorem dX1_want_86 : decode cX1_want 86 = .ok (.getfield 110, 3) := by decide +kernel
theorem dX1_want_89 : decode cX1_want 89 = .ok (.iconst 1, 1) := by decide +kernel
theorem dX1_want_90 : decode cX1_want 90 = .ok (.iadd, 1) := by decide +kernel
theorem dX1_want_91 : decode cX1_want 91 = .ok (.putfield 110, 3) := by decide +kernel
theorem dX1_want_94 : decode cX1_want 94 = .ok (.aload 4, 2) := by decide +kernel
theorem dX1_want_96 : decode cX1_want 96 = .ok (.getfield 110, 3) := by decide +kernel
theorem dX1_want_99 : decode cX1_want 99 = .ok (.ireturn, 1) := by decide +kernel
set_option maxRecDepth 20000 in
theorem ggX1_leave_X1_loanOf : GoodIn wsX1_leave wsX1_loanOf := goodIn_r _ [5, 6, 7, 43, 44, 45, 46, 47, 48, 49, 50, 51] (by decide +kernel) (by decide +kernel)
set_option maxRecDepth 20000 in
theorem gX1_leave_X1_loanOf : GoodIn wsX1_leave (wsV RX1 103 RX1 yX1_loanOf wsX1_loanOf) := goodIn_app (goodIn_of _ (by decide +kernel)) ggX1_leave_X1_loanOf
set_option maxRecDepth 20000 in
theorem ggX1_leave_X1_loadWant : GoodIn wsX1_leave wsX1_loadWant := goodIn_ca (goodIn_r _ [11, 12, 13, 14, 15, 4, 16, 17, 18, 19, 20, 21, 22, 23, 24, 25, 37, 38, 39, 40, 41, 42, 43, 44, 45, 46, 47, 48, 49, 50, 51] (by decide +kernel) (by decide +kernel)) (goodIn_sub (fun _ h => List.mem_cons_of_mem _ (List.mem_append_right _ h)) (by decide +kernel))
set_option maxRecDepth 20000 in
theorem gX1_leave_X1_loadWant : GoodIn wsX1_leave (wsV RX1 119 RX1 yX1_loadWant wsX1_loadWant) := goodIn_app (goodIn_of _ (by decide +kernel)) ggX1_leave_X1_loadWant
set_option maxRecDepth 20000 in
theorem ggX1_leave_X0_stick : GoodIn wsX1_leave wsX0_stick := goodIn_r _ [29, 30, 31, 37, 38, 39, 40, 41, 42] (by decide +kernel) (by decide +kernel)
set_option maxRecDepth 20000 in
theorem gX1_leave_X0_stick_n123 : GoodIn wsX1_leave (wsX0_stick) := ggX1_leave_X0_stick
set_option maxRecDepth 20000 in
theorem ggX1_leave_X1_found : GoodIn wsX1_leave wsX1_found := goodIn_ca (goodIn_r _ [35, 36, 43, 44, 45, 46, 47, 48, 49, 50, 51] (by decide +kernel) (by decide +kernel)) (goodIn_sub (fun _ h => List.mem_cons_of_mem _ (List.mem_append_right _ h)) (by decide +kernel))
set_option maxRecDepth 20000 in
theorem gX1_leave_X1_found : GoodIn wsX1_leave (wsV RX1 46 RX1 yX1_found wsX1_found) := goodIn_app (goodIn_of _ (by decide +kernel)) ggX1_leave_X1_found
theorem dX1_leave_0 : decode cX1_leave 0 = .ok (.aload_n 0, 1) := by decide +kernel
theorem dX1_leave_1 : decode cX1_leave 1 = .ok (.iload_n 1, 1) := by decide +kernel
theorem dX1_leave_2 : decode cX1_leave 2 = .ok (.invokevirtual 103, 3) := by decide +kernel
theorem dX1_leave_5 : decode cX1_leave 5 = .ok (.astore_n 2, 1) := by decide +kernel
theorem dX1_leave_6 : decode cX1_leave 6 = .ok (.aload_n 2, 1) := by decide +kernel
theorem dX1_leave_7 : decode cX1_leave 7 = .ok (.ifnonnull 5, 3) := by decide +kernel
theorem dX1_leave_10 : decode cX1_leave 10 = .ok (.iconst (-1), 1) := by decide +kernel
theorem dX1_leave_11 : decode cX1_leave 11 = .ok (.ireturn, 1) := by decide +kernel
theorem dX1_leave_12 : decode cX1_leave 12 = .ok (.aload_n 2, 1) := by decide +kernel
theorem dX1_leave_13 : decode cX1_leave 13 = .ok (.getfield 107, 3) := by decide +kernel
theorem dX1_leave_16 : decode cX1_leave 16 = .ok (.ifCond .eq 6, 3) := by decide +kernel
theorem dX1_leave_19 : decode cX1_leave 19 = .ok (.bipush (-3), 2) := by decide +kernel
theorem dX1_leave_21 : decode cX1_leave 21 = .ok (.ireturn, 1) := by decide +kernel
theorem dX1_leave_22 : decode cX1_leave 22 = .ok (.iconst 0, 1) := by decide +kernel
theorem dX1_leave_23 : decode cX1_leave 23 = .ok (.istore_n 3, 1) := by decide +kernel
theorem dX1_leave_24 : decode cX1_leave 24 = .ok (.iload_n 3, 1) := by decide +kernel
theorem dX1_leave_25 : decode cX1_leave 25 = .ok (.aload_n 2, 1) := by decide +kernel
theorem dX1_leave_26 : decode cX1_leave 26 = .ok (.getfield 110, 3) := by decide +kernel
theorem dX1_leave_29 : decode cX1_leave 29 = .ok (.if_icmp .ge 34, 3) := by decide +kernel
theorem dX1_leave_32 : decode cX1_leave 32 = .ok (.aload_n 0, 1) := by decide +kernel
theorem dX1_leave_33 : decode cX1_leave 33 = .ok (.aload_n 2, 1) := by decide +kernel
theorem dX1_leave_34 : decode cX1_leave 34 = .ok (.iload_n 3, 1) := by decide +kernel
theorem dX1_leave_35 : decode cX1_leave 35 = .ok (.invokevirtual 119, 3) := by decide +kernel
theorem dX1_leave_38 : decode cX1_leave 38 = .ok (.istore 4, 2) := by decide +kernel
theorem dX1_leave_40 : decode cX1_leave 40 = .ok (.iload 4, 2) := by decide +kernel
theorem dX1_leave_42 : decode cX1_leave 42 = .ok (.ifCond .eq 15, 3) := by decide +kernel
theorem dX1_leave_45 : decode cX1_leave 45 = .ok (.aload_n 2, 1) := by decide +kernel
theorem dX1_leave_46 : decode cX1_leave 46 = .ok (.iload_n 3, 1) := by decide +kernel
theorem dX1_leave_47 : decode cX1_leave 47 = .ok (.invokevirtual 123, 3) := by decide +kernel
theorem dX1_leave_50 : decode cX1_leave 50 = .ok (.aload_n 0, 1) := by decide +kernel
theorem dX1_leave_51 : decode cX1_leave 51 = .ok (.iload 4, 2) := by decide +kernel
theorem dX1_leave_53 : decode cX1_leave 53 = .ok (.invokevirtual 46, 3) := by decide +kernel
theorem dX1_leave_56 : decode cX1_leave 56 = .ok (.ireturn, 1) := by decide +kernel
theorem dX1_leave_57 : decode cX1_leave 57 = .ok (.iinc 3 1, 3) := by decide +kernel
theorem dX1_leave_60 : decode cX1_leave 60 = .ok (.goto (-36), 3) := by decide +kernel
theorem dX1_leave_63 : decode cX1_leave 63 = .ok (.aload_n 2, 1) := by decide +kernel
theorem dX1_leave_64 : decode cX1_leave 64 = .ok (.iconst 2, 1) := by decide +kernel
theorem dX1_leave_65 : decode cX1_leave 65 = .ok (.putfield 107, 3) := by decide +kernel
theorem dX1_leave_68 : decode cX1_leave 68 = .ok (.iconst 1, 1) := by decide +kernel
theorem dX1_leave_69 : decode cX1_leave 69 = .ok (.ireturn, 1) := by decide +kernel
set_option maxRecDepth 20000 in
theorem ggX1_back_X1_loanOf : GoodIn wsX1_back wsX1_loanOf := goodIn_r _ [5, 6, 7, 44, 45, 46, 47, 48, 49, 50, 51, 52] (by decide +kernel) (by decide +kernel)
set_option maxRecDepth 20000 in
theorem gX1_back_X1_loanOf : GoodIn wsX1_back (wsV RX1 103 RX1 yX1_loanOf wsX1_loanOf) := goodIn_app (goodIn_of _ (by decide +kernel)) ggX1_back_X1_loanOf
set_option maxRecDepth 20000 in
theorem ggX1_back_X1_unloadWant : GoodIn wsX1_back wsX1_unloadWant := goodIn_ca (goodIn_r _ [11, 12, 13, 14, 15, 4, 16, 17, 18, 19, 20, 21, 22, 23, 24, 25, 26, 38, 39, 40, 41, 42, 43, 44, 45, 46, 47, 48, 49, 50, 51, 52] (by decide +kernel) (by decide +kernel)) (goodIn_sub (fun _ h => List.mem_cons_of_mem _ (List.mem_append_right _ h)) (by decide +kernel))
set_option maxRecDepth 20000 in
theorem gX1_back_X1_unloadWant : GoodIn wsX1_back (wsV RX1 127 RX1 yX1_unloadWant wsX1_unloadWant) := goodIn_app (goodIn_of _ (by decide +kernel)) ggX1_back_X1_unloadWant
set_option maxRecDepth 20000 in
theorem ggX1_back_X0_settle : GoodIn wsX1_back wsX0_settle := goodIn_ca (goodIn_r _ [30, 31, 32, 33, 34, 35, 36, 28, 37, 38, 39, 40, 41, 42, 43] (by decide +kernel) (by decide +kernel)) (goodIn_sub (fun _ h => List.mem_cons_of_mem _ (List.mem_append_right _ h)) (by decide +kernel))
set_option maxRecDepth 20000 in
theorem gX1_back_X0_settle_n131 : GoodIn wsX1_back (wsX0_settle) := ggX1_back_X0_settle
theorem dX1_back_0 : decode cX1_back 0 = .ok (.aload_n 0, 1) := by decide +kernel
theorem dX1_back_1 : decode cX1_back 1 = .ok (.iload_n 1, 1) := by decide +kernel
theorem dX1_back_2 : decode cX1_back 2 = .ok (.invokevirtual 103, 3) := by decide +kernel
theorem dX1_back_5 : decode cX1_back 5 = .ok (.astore_n 2, 1) := by decide +kernel
theorem dX1_back_6 : decode cX1_back 6 = .ok (.aload_n 2, 1) := by decide +kernel
theorem dX1_back_7 : decode cX1_back 7 = .ok (.ifnonnull 5, 3) := by decide +kernel
theorem dX1_back_10 : decode cX1_back 10 = .ok (.iconst (-1), 1) := by decide +kernel
theorem dX1_back_11 : decode cX1_back 11 = .ok (.ireturn, 1) := by decide +kernel
theorem dX1_back_12 : decode cX1_back 12 = .ok (.aload_n 2, 1) := by decide +kernel
theorem dX1_back_13 : decode cX1_back 13 = .ok (.getfield 107, 3) := by decide +kernel
theorem dX1_back_16 : decode cX1_back 16 = .ok (.iconst 1, 1) := by decide +kernel
theorem dX1_back_17 : decode cX1_back 17 = .ok (.if_icmp .eq 14, 3) := by decide +kernel
theorem dX1_back_20 : decode cX1_back 20 = .ok (.aload_n 2, 1) := by decide +kernel
theorem dX1_back_21 : decode cX1_back 21 = .ok (.getfield 107, 3) := by decide +kernel
theorem dX1_back_24 : decode cX1_back 24 = .ok (.iconst 2, 1) := by decide +kernel
theorem dX1_back_25 : decode cX1_back 25 = .ok (.if_icmp .eq 6, 3) := by decide +kernel
theorem dX1_back_28 : decode cX1_back 28 = .ok (.bipush (-3), 2) := by decide +kernel
theorem dX1_back_30 : decode cX1_back 30 = .ok (.ireturn, 1) := by decide +kernel
theorem dX1_back_31 : decode cX1_back 31 = .ok (.iconst 0, 1) := by decide +kernel
theorem dX1_back_32 : decode cX1_back 32 = .ok (.istore_n 3, 1) := by decide +kernel
theorem dX1_back_33 : decode cX1_back 33 = .ok (.aload_n 2, 1) := by decide +kernel
theorem dX1_back_34 : decode cX1_back 34 = .ok (.getfield 110, 3) := by decide +kernel
theorem dX1_back_37 : decode cX1_back 37 = .ok (.iconst 1, 1) := by decide +kernel
theorem dX1_back_38 : decode cX1_back 38 = .ok (.isub, 1) := by decide +kernel
theorem dX1_back_39 : decode cX1_back 39 = .ok (.istore 4, 2) := by decide +kernel
theorem dX1_back_41 : decode cX1_back 41 = .ok (.iload 4, 2) := by decide +kernel
theorem dX1_back_43 : decode cX1_back 43 = .ok (.ifCond .lt 22, 3) := by decide +kernel
theorem dX1_back_46 : decode cX1_back 46 = .ok (.aload_n 0, 1) := by decide +kernel
theorem dX1_back_47 : decode cX1_back 47 = .ok (.aload_n 2, 1) := by decide +kernel
theorem dX1_back_48 : decode cX1_back 48 = .ok (.iload 4, 2) := by decide +kernel
theorem dX1_back_50 : decode cX1_back 50 = .ok (.invokevirtual 127, 3) := by decide +kernel
theorem dX1_back_53 : decode cX1_back 53 = .ok (.ifCond .eq 6, 3) := by decide +kernel
theorem dX1_back_56 : decode cX1_back 56 = .ok (.iinc 3 1, 3) := by decide +kernel
theorem dX1_back_59 : decode cX1_back 59 = .ok (.iinc 4 (-1), 3) := by decide +kernel
theorem dX1_back_62 : decode cX1_back 62 = .ok (.goto (-21), 3) := by decide +kernel
theorem dX1_back_65 : decode cX1_back 65 = .ok (.aload_n 2, 1) := by decide +kernel
theorem dX1_back_66 : decode cX1_back 66 = .ok (.invokevirtual 131, 3) := by decide +kernel
theorem dX1_back_69 : decode cX1_back 69 = .ok (.iload_n 3, 1) := by decide +kernel
theorem dX1_back_70 : decode cX1_back 70 = .ok (.ireturn, 1) := by decide +kernel
set_option maxRecDepth 20000 in
theorem ggX1_told_X1_loanOf : GoodIn wsX1_told wsX1_loanOf := goodIn_r _ [5, 6, 7, 19, 20, 21, 22, 23, 24, 25, 26, 27] (by decide +kernel) (by decide +kernel)
set_option maxRecDepth 20000 in
theorem gX1_told_X1_loanOf : GoodIn wsX1_told (wsV RX1 103 RX1 yX1_loanOf wsX1_loanOf) := goodIn_app (goodIn_of _ (by decide +kernel)) ggX1_told_X1_loanOf
set_option maxRecDepth 20000 in
theorem ggX1_told_X0_loaded : GoodIn wsX1_told wsX0_loaded := goodIn_ca (goodIn_r _ [11, 12, 13, 14, 15, 16, 17, 18] (by decide +kernel) (by decide +kernel)) (goodIn_sub (fun _ h => List.mem_cons_of_mem _ (List.mem_append_right _ h)) (by decide +kernel))
set_option maxRecDepth 20000 in
theorem gX1_told_X0_loaded_n134 : GoodIn wsX1_told (wsX0_loaded) := ggX1_told_X0_loaded
theorem dX1_told_0 : decode cX1_told 0 = .ok (.aload_n 0, 1) := by decide +kernel
theorem dX1_told_1 : decode cX1_told 1 = .ok (.iload_n 1, 1) := by decide +kernel
theorem dX1_told_2 : decode cX1_told 2 = .ok (.invokevirtual 103, 3) := by decide +kernel
theorem dX1_told_5 : decode cX1_told 5 = .ok (.astore_n 3, 1) := by decide +kernel
theorem dX1_told_6 : decode cX1_told 6 = .ok (.aload_n 3, 1) := by decide +kernel
theorem dX1_told_7 : decode cX1_told 7 = .ok (.ifnonnull 5, 3) := by decide +kernel
theorem dX1_told_10 : decode cX1_told 10 = .ok (.iconst (-1), 1) := by decide +kernel
theorem dX1_told_11 : decode cX1_told 11 = .ok (.ireturn, 1) := by decide +kernel
theorem dX1_told_12 : decode cX1_told 12 = .ok (.iload_n 2, 1) := by decide +kernel
theorem dX1_told_13 : decode cX1_told 13 = .ok (.tableswitch 51 0 3 #[31, 36, 41, 46], 31) := by decide +kernel
theorem dX1_told_44 : decode cX1_told 44 = .ok (.aload_n 3, 1) := by decide +kernel
theorem dX1_told_45 : decode cX1_told 45 = .ok (.getfield 107, 3) := by decide +kernel
theorem dX1_told_48 : decode cX1_told 48 = .ok (.ireturn, 1) := by decide +kernel
theorem dX1_told_49 : decode cX1_told 49 = .ok (.aload_n 3, 1) := by decide +kernel
theorem dX1_told_50 : decode cX1_told 50 = .ok (.getfield 110, 3) := by decide +kernel
theorem dX1_told_53 : decode cX1_told 53 = .ok (.ireturn, 1) := by decide +kernel
theorem dX1_told_54 : decode cX1_told 54 = .ok (.aload_n 3, 1) := by decide +kernel
theorem dX1_told_55 : decode cX1_told 55 = .ok (.invokevirtual 134, 3) := by decide +kernel
theorem dX1_told_58 : decode cX1_told 58 = .ok (.ireturn, 1) := by decide +kernel
theorem dX1_told_59 : decode cX1_told 59 = .ok (.aload_n 3, 1) := by decide +kernel
theorem dX1_told_60 : decode cX1_told 60 = .ok (.getfield 138, 3) := by decide +kernel
theorem dX1_told_63 : decode cX1_told 63 = .ok (.ireturn, 1) := by decide +kernel
theorem dX1_told_64 : decode cX1_told 64 = .ok (.bipush (-2), 2) := by decide +kernel
theorem dX1_told_66 : decode cX1_told 66 = .ok (.ireturn, 1) := by decide +kernel
set_option maxRecDepth 20000 in
theorem ggX1_van_X1_loanOf : GoodIn wsX1_van wsX1_loanOf := goodIn_r _ [5, 6, 7, 17, 18, 19, 20, 21, 22, 23, 24, 25] (by decide +kernel) (by decide +kernel)
set_option maxRecDepth 20000 in
theorem gX1_van_X1_loanOf : GoodIn wsX1_van (wsV RX1 103 RX1 yX1_loanOf wsX1_loanOf) := goodIn_app (goodIn_of _ (by decide +kernel)) ggX1_van_X1_loanOf
set_option maxRecDepth 20000 in
theorem ggX1_van_X1_between : GoodIn wsX1_van wsX1_between := goodIn_r _ [10] (by decide +kernel) (by decide +kernel)
set_option maxRecDepth 20000 in
theorem gX1_van_X1_between : GoodIn wsX1_van (va_wsS RX1 34 yX1_between wsX1_between) := goodIn_app (goodIn_of _ (by decide +kernel)) ggX1_van_X1_between
theorem dX1_van_0 : decode cX1_van 0 = .ok (.aload_n 0, 1) := by decide +kernel
theorem dX1_van_1 : decode cX1_van 1 = .ok (.iload_n 1, 1) := by decide +kernel
theorem dX1_van_2 : decode cX1_van 2 = .ok (.invokevirtual 103, 3) := by decide +kernel
theorem dX1_van_5 : decode cX1_van 5 = .ok (.astore_n 3, 1) := by decide +kernel
theorem dX1_van_6 : decode cX1_van 6 = .ok (.aload_n 3, 1) := by decide +kernel
theorem dX1_van_7 : decode cX1_van 7 = .ok (.ifnonnull 5, 3) := by decide +kernel
theorem dX1_van_10 : decode cX1_van 10 = .ok (.iconst (-1), 1) := by decide +kernel
theorem dX1_van_11 : decode cX1_van 11 = .ok (.ireturn, 1) := by decide +kernel
theorem dX1_van_12 : decode cX1_van 12 = .ok (.iload_n 2, 1) := by decide +kernel
theorem dX1_van_13 : decode cX1_van 13 = .ok (.iconst 0, 1) := by decide +kernel
theorem dX1_van_14 : decode cX1_van 14 = .ok (.bipush 7, 2) := by decide +kernel
theorem dX1_van_16 : decode cX1_van 16 = .ok (.invokestatic 34, 3) := by decide +kernel
theorem dX1_van_19 : decode cX1_van 19 = .ok (.ifCond .eq 12, 3) := by decide +kernel
theorem dX1_van_22 : decode cX1_van 22 = .ok (.aload_n 3, 1) := by decide +kernel
theorem dX1_van_23 : decode cX1_van 23 = .ok (.getfield 141, 3) := by decide +kernel
theorem dX1_van_26 : decode cX1_van 26 = .ok (.iload_n 2, 1) := by decide +kernel
theorem dX1_van_27 : decode cX1_van 27 = .ok (.iaload, 1) := by decide +kernel
theorem dX1_van_28 : decode cX1_van 28 = .ok (.goto 5, 3) := by decide +kernel
theorem dX1_van_31 : decode cX1_van 31 = .ok (.bipush (-5), 2) := by decide +kernel
theorem dX1_van_33 : decode cX1_van 33 = .ok (.ireturn, 1) := by decide +kernel
set_option maxRecDepth 20000 in
theorem ggX1_count_X1_countCases : GoodIn wsX1_count wsX1_countCases := goodIn_ca (goodIn_r _ [8, 1, 9, 10, 14, 15, 16, 17, 18, 19, 20, 21, 22] (by decide +kernel) (by decide +kernel)) (goodIn_sub (fun _ h => List.mem_cons_of_mem _ (List.mem_append_right _ h)) (by decide +kernel))
set_option maxRecDepth 20000 in
theorem gX1_count_X1_countCases : GoodIn wsX1_count (wsV RX1 144 RX1 yX1_countCases wsX1_countCases) := goodIn_app (goodIn_of _ (by decide +kernel)) ggX1_count_X1_countCases
set_option maxRecDepth 20000 in
theorem ggX1_count_X1_between : GoodIn wsX1_count wsX1_between := goodIn_r _ [13] (by decide +kernel) (by decide +kernel)
set_option maxRecDepth 20000 in
theorem gX1_count_X1_between : GoodIn wsX1_count (va_wsS RX1 34 yX1_between wsX1_between) := goodIn_app (goodIn_of _ (by decide +kernel)) ggX1_count_X1_between
theorem dX1_count_0 : decode cX1_count 0 = .ok (.iload_n 1, 1) := by decide +kernel
theorem dX1_count_1 : decode cX1_count 1 = .ok (.tableswitch 53 0 3 #[31, 36, 42, 48], 31) := by decide +kernel
theorem dX1_count_32 : decode cX1_count 32 = .ok (.aload_n 0, 1) := by decide +kernel
theorem dX1_count_33 : decode cX1_count 33 = .ok (.getfield 38, 3) := by decide +kernel
theorem dX1_count_36 : decode cX1_count 36 = .ok (.ireturn, 1) := by decide +kernel
theorem dX1_count_37 : decode cX1_count 37 = .ok (.aload_n 0, 1) := by decide +kernel
theorem dX1_count_38 : decode cX1_count 38 = .ok (.iconst 0, 1) := by decide +kernel
theorem dX1_count_39 : decode cX1_count 39 = .ok (.invokevirtual 144, 3) := by decide +kernel
theorem dX1_count_42 : decode cX1_count 42 = .ok (.ireturn, 1) := by decide +kernel
theorem dX1_count_43 : decode cX1_count 43 = .ok (.aload_n 0, 1) := by decide +kernel
theorem dX1_count_44 : decode cX1_count 44 = .ok (.iconst 1, 1) := by decide +kernel
theorem dX1_count_45 : decode cX1_count 45 = .ok (.invokevirtual 144, 3) := by decide +kernel
theorem dX1_count_48 : decode cX1_count 48 = .ok (.ireturn, 1) := by decide +kernel
theorem dX1_count_49 : decode cX1_count 49 = .ok (.aload_n 0, 1) := by decide +kernel
theorem dX1_count_50 : decode cX1_count 50 = .ok (.getfield 99, 3) := by decide +kernel
theorem dX1_count_53 : decode cX1_count 53 = .ok (.ireturn, 1) := by decide +kernel
theorem dX1_count_54 : decode cX1_count 54 = .ok (.iload_n 1, 1) := by decide +kernel
theorem dX1_count_55 : decode cX1_count 55 = .ok (.iconst 4, 1) := by decide +kernel
theorem dX1_count_56 : decode cX1_count 56 = .ok (.bipush 8, 2) := by decide +kernel
theorem dX1_count_58 : decode cX1_count 58 = .ok (.invokestatic 34, 3) := by decide +kernel
theorem dX1_count_61 : decode cX1_count 61 = .ok (.ifCond .eq 14, 3) := by decide +kernel
theorem dX1_count_64 : decode cX1_count 64 = .ok (.aload_n 0, 1) := by decide +kernel
theorem dX1_count_65 : decode cX1_count 65 = .ok (.getfield 31, 3) := by decide +kernel
theorem dX1_count_68 : decode cX1_count 68 = .ok (.iload_n 1, 1) := by decide +kernel
theorem dX1_count_69 : decode cX1_count 69 = .ok (.iconst 3, 1) := by decide +kernel
theorem dX1_count_70 : decode cX1_count 70 = .ok (.isub, 1) := by decide +kernel
theorem dX1_count_71 : decode cX1_count 71 = .ok (.iaload, 1) := by decide +kernel
theorem dX1_count_72 : decode cX1_count 72 = .ok (.goto 5, 3) := by decide +kernel
theorem dX1_count_75 : decode cX1_count 75 = .ok (.bipush (-2), 2) := by decide +kernel
theorem dX1_count_77 : decode cX1_count 77 = .ok (.ireturn, 1) := by decide +kernel
theorem dX1_clear_0 : decode cX1_clear 0 = .ok (.aload_n 0, 1) := by decide +kernel
theorem dX1_clear_1 : decode cX1_clear 1 = .ok (.getfield 38, 3) := by decide +kernel
theorem dX1_clear_4 : decode cX1_clear 4 = .ok (.istore_n 1, 1) := by decide +kernel
theorem dX1_clear_5 : decode cX1_clear 5 = .ok (.aload_n 0, 1) := by decide +kernel
theorem dX1_clear_6 : decode cX1_clear 6 = .ok (.iconst 0, 1) := by decide +kernel
theorem dX1_clear_7 : decode cX1_clear 7 = .ok (.putfield 38, 3) := by decide +kernel
theorem dX1_clear_10 : decode cX1_clear 10 = .ok (.aload_n 0, 1) := by decide +kernel
theorem dX1_clear_11 : decode cX1_clear 11 = .ok (.iconst 0, 1) := by decide +kernel
theorem dX1_clear_12 : decode cX1_clear 12 = .ok (.putfield 99, 3) := by decide +kernel
theorem dX1_clear_15 : decode cX1_clear 15 = .ok (.iconst 0, 1) := by decide +kernel
theorem dX1_clear_16 : decode cX1_clear 16 = .ok (.istore_n 2, 1) := by decide +kernel
theorem dX1_clear_17 : decode cX1_clear 17 = .ok (.iload_n 2, 1) := by decide +kernel
theorem dX1_clear_18 : decode cX1_clear 18 = .ok (.iconst 5, 1) := by decide +kernel
theorem dX1_clear_19 : decode cX1_clear 19 = .ok (.if_icmp .gt 16, 3) := by decide +kernel
theorem dX1_clear_22 : decode cX1_clear 22 = .ok (.aload_n 0, 1) := by decide +kernel
theorem dX1_clear_23 : decode cX1_clear 23 = .ok (.getfield 31, 3) := by decide +kernel
theorem dX1_clear_26 : decode cX1_clear 26 = .ok (.iload_n 2, 1) := by decide +kernel
theorem dX1_clear_27 : decode cX1_clear 27 = .ok (.iconst 0, 1) := by decide +kernel
theorem dX1_clear_28 : decode cX1_clear 28 = .ok (.iastore, 1) := by decide +kernel
theorem dX1_clear_29 : decode cX1_clear 29 = .ok (.iinc 2 1, 3) := by decide +kernel
theorem dX1_clear_32 : decode cX1_clear 32 = .ok (.goto (-15), 3) := by decide +kernel
theorem dX1_clear_35 : decode cX1_clear 35 = .ok (.iload_n 1, 1) := by decide +kernel
theorem dX1_clear_36 : decode cX1_clear 36 = .ok (.ireturn, 1) := by decide +kernel
theorem dX1_between_0 : decode cX1_between 0 = .ok (.iload_n 0, 1) := by decide +kernel
theorem dX1_between_1 : decode cX1_between 1 = .ok (.iload_n 1, 1) := by decide +kernel
theorem dX1_between_2 : decode cX1_between 2 = .ok (.if_icmp .lt 12, 3) := by decide +kernel
theorem dX1_between_5 : decode cX1_between 5 = .ok (.iload_n 0, 1) := by decide +kernel
theorem dX1_between_6 : decode cX1_between 6 = .ok (.iload_n 2, 1) := by decide +kernel
theorem dX1_between_7 : decode cX1_between 7 = .ok (.if_icmp .gt 7, 3) := by decide +kernel
theorem dX1_between_10 : decode cX1_between 10 = .ok (.iconst 1, 1) := by decide +kernel
theorem dX1_between_11 : decode cX1_between 11 = .ok (.goto 4, 3) := by decide +kernel
theorem dX1_between_14 : decode cX1_between 14 = .ok (.iconst 0, 1) := by decide +kernel
theorem dX1_between_15 : decode cX1_between 15 = .ok (.ireturn, 1) := by decide +kernel
theorem dX1_isThing_0 : decode cX1_isThing 0 = .ok (.iload_n 1, 1) := by decide +kernel
theorem dX1_isThing_1 : decode cX1_isThing 1 = .ok (.ifCond .lt 15, 3) := by decide +kernel
theorem dX1_isThing_4 : decode cX1_isThing 4 = .ok (.iload_n 1, 1) := by decide +kernel
theorem dX1_isThing_5 : decode cX1_isThing 5 = .ok (.aload_n 0, 1) := by decide +kernel
theorem dX1_isThing_6 : decode cX1_isThing 6 = .ok (.getfield 38, 3) := by decide +kernel
theorem dX1_isThing_9 : decode cX1_isThing 9 = .ok (.if_icmp .ge 7, 3) := by decide +kernel
theorem dX1_isThing_12 : decode cX1_isThing 12 = .ok (.iconst 1, 1) := by decide +kernel
theorem dX1_isThing_13 : decode cX1_isThing 13 = .ok (.goto 4, 3) := by decide +kernel
theorem dX1_isThing_16 : decode cX1_isThing 16 = .ok (.iconst 0, 1) := by decide +kernel
theorem dX1_isThing_17 : decode cX1_isThing 17 = .ok (.ireturn, 1) := by decide +kernel
set_option maxRecDepth 20000 in
theorem ggX1_isThingOrNone_X1_isThing : GoodIn wsX1_isThingOrNone wsX1_isThing := goodIn_r _ [5, 6, 7, 8, 9, 10, 11, 12, 13, 14, 15] (by decide +kernel) (by decide +kernel)
set_option maxRecDepth 20000 in
theorem gX1_isThingOrNone_X1_isThing : GoodIn wsX1_isThingOrNone (wsV RX1 50 RX1 yX1_isThing wsX1_isThing) := goodIn_app (goodIn_of _ (by decide +kernel)) ggX1_isThingOrNone_X1_isThing
theorem dX1_isThingOrNone_0 : decode cX1_isThingOrNone 0 = .ok (.iload_n 1, 1) := by decide +kernel
theorem dX1_isThingOrNone_1 : decode cX1_isThingOrNone 1 = .ok (.bipush (-5), 2) := by decide +kernel
theorem dX1_isThingOrNone_3 : decode cX1_isThingOrNone 3 = .ok (.if_icmp .eq 11, 3) := by decide +kernel
theorem dX1_isThingOrNone_6 : decode cX1_isThingOrNone 6 = .ok (.aload_n 0, 1) := by decide +kernel
theorem dX1_isThingOrNone_7 : decode cX1_isThingOrNone 7 = .ok (.iload_n 1, 1) := by decide +kernel
theorem dX1_isThingOrNone_8 : decode cX1_isThingOrNone 8 = .ok (.invokevirtual 50, 3) := by decide +kernel
theorem dX1_isThingOrNone_11 : decode cX1_isThingOrNone 11 = .ok (.ifCond .eq 7, 3) := by decide +kernel
theorem dX1_isThingOrNone_14 : decode cX1_isThingOrNone 14 = .ok (.iconst 1, 1) := by decide +kernel
theorem dX1_isThingOrNone_15 : decode cX1_isThingOrNone 15 = .ok (.goto 4, 3) := by decide +kernel
theorem dX1_isThingOrNone_18 : decode cX1_isThingOrNone 18 = .ok (.iconst 0, 1) := by decide +kernel
theorem dX1_isThingOrNone_19 : decode cX1_isThingOrNone 19 = .ok (.ireturn, 1) := by decide +kernel
set_option maxRecDepth 20000 in
theorem ggX1_isCase_X1_isThing : GoodIn wsX1_isCase wsX1_isThing := goodIn_r _ [6, 7, 8, 9, 10, 11, 12, 13, 14, 15, 16] (by decide +kernel) (by decide +kernel)
set_option maxRecDepth 20000 in
theorem gX1_isCase_X1_isThing : GoodIn wsX1_isCase (wsV RX1 50 RX1 yX1_isThing wsX1_isThing) := goodIn_app (goodIn_of _ (by decide +kernel)) ggX1_isCase_X1_isThing
theorem dX1_isCase_0 : decode cX1_isCase 0 = .ok (.aload_n 0, 1) := by decide +kernel
theorem dX1_isCase_1 : decode cX1_isCase 1 = .ok (.iload_n 1, 1) := by decide +kernel
theorem dX1_isCase_2 : decode cX1_isCase 2 = .ok (.invokevirtual 50, 3) := by decide +kernel
theorem dX1_isCase_5 : decode cX1_isCase 5 = .ok (.ifCond .eq 18, 3) := by decide +kernel
theorem dX1_isCase_8 : decode cX1_isCase 8 = .ok (.aload_n 0, 1) := by decide +kernel
theorem dX1_isCase_9 : decode cX1_isCase 9 = .ok (.getfield 9, 3) := by decide +kernel
theorem dX1_isCase_12 : decode cX1_isCase 12 = .ok (.iload_n 1, 1) := by decide +kernel
theorem dX1_isCase_13 : decode cX1_isCase 13 = .ok (.iaload, 1) := by decide +kernel
theorem dX1_isCase_14 : decode cX1_isCase 14 = .ok (.bipush 18, 2) := by decide +kernel
theorem dX1_isCase_16 : decode cX1_isCase 16 = .ok (.if_icmp .ne 7, 3) := by decide +kernel
theorem dX1_isCase_19 : decode cX1_isCase 19 = .ok (.iconst 1, 1) := by decide +kernel
theorem dX1_isCase_20 : decode cX1_isCase 20 = .ok (.goto 4, 3) := by decide +kernel
theorem dX1_isCase_23 : decode cX1_isCase 23 = .ok (.iconst 0, 1) := by decide +kernel
theorem dX1_isCase_24 : decode cX1_isCase 24 = .ok (.ireturn, 1) := by decide +kernel
theorem dX1_hasPlace_0 : decode cX1_hasPlace 0 = .ok (.iload_n 2, 1) := by decide +kernel
theorem dX1_hasPlace_1 : decode cX1_hasPlace 1 = .ok (.ifCond .lt 17, 3) := by decide +kernel
theorem dX1_hasPlace_4 : decode cX1_hasPlace 4 = .ok (.iload_n 2, 1) := by decide +kernel
theorem dX1_hasPlace_5 : decode cX1_hasPlace 5 = .ok (.aload_n 0, 1) := by decide +kernel
theorem dX1_hasPlace_6 : decode cX1_hasPlace 6 = .ok (.getfield 16, 3) := by decide +kernel
theorem dX1_hasPlace_9 : decode cX1_hasPlace 9 = .ok (.iload_n 1, 1) := by decide +kernel
theorem dX1_hasPlace_10 : decode cX1_hasPlace 10 = .ok (.iaload, 1) := by decide +kernel
theorem dX1_hasPlace_11 : decode cX1_hasPlace 11 = .ok (.if_icmp .ge 7, 3) := by decide +kernel
theorem dX1_hasPlace_14 : decode cX1_hasPlace 14 = .ok (.iconst 1, 1) := by decide +kernel
theorem dX1_hasPlace_15 : decode cX1_hasPlace 15 = .ok (.goto 4, 3) := by decide +kernel
theorem dX1_hasPlace_18 : decode cX1_hasPlace 18 = .ok (.iconst 0, 1) := by decide +kernel
theorem dX1_hasPlace_19 : decode cX1_hasPlace 19 = .ok (.ireturn, 1) := by decide +kernel
theorem dX1_loanOf_0 : decode cX1_loanOf 0 = .ok (.iload_n 1, 1) := by decide +kernel
theorem dX1_loanOf_1 : decode cX1_loanOf 1 = .ok (.ifCond .lt 20, 3) := by decide +kernel
theorem dX1_loanOf_4 : decode cX1_loanOf 4 = .ok (.iload_n 1, 1) := by decide +kernel
theorem dX1_loanOf_5 : decode cX1_loanOf 5 = .ok (.aload_n 0, 1) := by decide +kernel
theorem dX1_loanOf_6 : decode cX1_loanOf 6 = .ok (.getfield 99, 3) := by decide +kernel
theorem dX1_loanOf_9 : decode cX1_loanOf 9 = .ok (.if_icmp .ge 12, 3) := by decide +kernel
theorem dX1_loanOf_12 : decode cX1_loanOf 12 = .ok (.aload_n 0, 1) := by decide +kernel
theorem dX1_loanOf_13 : decode cX1_loanOf 13 = .ok (.getfield 27, 3) := by decide +kernel
theorem dX1_loanOf_16 : decode cX1_loanOf 16 = .ok (.iload_n 1, 1) := by decide +kernel
theorem dX1_loanOf_17 : decode cX1_loanOf 17 = .ok (.aaload, 1) := by decide +kernel
theorem dX1_loanOf_18 : decode cX1_loanOf 18 = .ok (.goto 4, 3) := by decide +kernel
theorem dX1_loanOf_21 : decode cX1_loanOf 21 = .ok (.aconst_null, 1) := by decide +kernel
theorem dX1_loanOf_22 : decode cX1_loanOf 22 = .ok (.areturn, 1) := by decide +kernel
set_option maxRecDepth 20000 in
theorem ggX1_add_X1_between : GoodIn wsX1_add wsX1_between := goodIn_r _ [10] (by decide +kernel) (by decide +kernel)
set_option maxRecDepth 20000 in
theorem gX1_add_X1_between : GoodIn wsX1_add (va_wsS RX1 34 yX1_between wsX1_between) := goodIn_app (goodIn_of _ (by decide +kernel)) ggX1_add_X1_between
theorem dX1_add_0 : decode cX1_add 0 = .ok (.aload_n 0, 1) := by decide +kernel
theorem dX1_add_1 : decode cX1_add 1 = .ok (.getfield 38, 3) := by decide +kernel
theorem dX1_add_4 : decode cX1_add 4 = .ok (.istore 4, 2) := by decide +kernel
theorem dX1_add_6 : decode cX1_add 6 = .ok (.aload_n 0, 1) := by decide +kernel
theorem dX1_add_7 : decode cX1_add 7 = .ok (.getfield 9, 3) := by decide +kernel
theorem dX1_add_10 : decode cX1_add 10 = .ok (.iload 4, 2) := by decide +kernel
theorem dX1_add_12 : decode cX1_add 12 = .ok (.iload_n 1, 1) := by decide +kernel
theorem dX1_add_13 : decode cX1_add 13 = .ok (.iastore, 1) := by decide +kernel
theorem dX1_add_14 : decode cX1_add 14 = .ok (.aload_n 0, 1) := by decide +kernel
theorem dX1_add_15 : decode cX1_add 15 = .ok (.getfield 13, 3) := by decide +kernel
theorem dX1_add_18 : decode cX1_add 18 = .ok (.iload 4, 2) := by decide +kernel
theorem dX1_add_20 : decode cX1_add 20 = .ok (.iload_n 2, 1) := by decide +kernel
theorem dX1_add_21 : decode cX1_add 21 = .ok (.iastore, 1) := by decide +kernel
theorem dX1_add_22 : decode cX1_add 22 = .ok (.aload_n 0, 1) := by decide +kernel
theorem dX1_add_23 : decode cX1_add 23 = .ok (.getfield 16, 3) := by decide +kernel
theorem dX1_add_26 : decode cX1_add 26 = .ok (.iload 4, 2) := by decide +kernel
theorem dX1_add_28 : decode cX1_add 28 = .ok (.iload_n 3, 1) := by decide +kernel
theorem dX1_add_29 : decode cX1_add 29 = .ok (.iastore, 1) := by decide +kernel
theorem dX1_add_30 : decode cX1_add 30 = .ok (.aload_n 0, 1) := by decide +kernel
theorem dX1_add_31 : decode cX1_add 31 = .ok (.getfield 19, 3) := by decide +kernel
theorem dX1_add_34 : decode cX1_add 34 = .ok (.iload 4, 2) := by decide +kernel
theorem dX1_add_36 : decode cX1_add 36 = .ok (.bipush (-5), 2) := by decide +kernel
theorem dX1_add_38 : decode cX1_add 38 = .ok (.iastore, 1) := by decide +kernel
theorem dX1_add_39 : decode cX1_add 39 = .ok (.iload_n 1, 1) := by decide +kernel
theorem dX1_add_40 : decode cX1_add 40 = .ok (.bipush 9, 2) := by decide +kernel
theorem dX1_add_42 : decode cX1_add 42 = .ok (.bipush 17, 2) := by decide +kernel
theorem dX1_add_44 : decode cX1_add 44 = .ok (.invokestatic 34, 3) := by decide +kernel
theorem dX1_add_47 : decode cX1_add 47 = .ok (.ifCond .eq 8, 3) := by decide +kernel
theorem dX1_add_50 : decode cX1_add 50 = .ok (.bipush (-5), 2) := by decide +kernel
theorem dX1_add_52 : decode cX1_add 52 = .ok (.goto 4, 3) := by decide +kernel
theorem dX1_add_55 : decode cX1_add 55 = .ok (.iconst 0, 1) := by decide +kernel
theorem dX1_add_56 : decode cX1_add 56 = .ok (.istore 5, 2) := by decide +kernel
theorem dX1_add_58 : decode cX1_add 58 = .ok (.iconst 0, 1) := by decide +kernel
theorem dX1_add_59 : decode cX1_add 59 = .ok (.istore 6, 2) := by decide +kernel
theorem dX1_add_61 : decode cX1_add 61 = .ok (.iload 6, 2) := by decide +kernel
theorem dX1_add_63 : decode cX1_add 63 = .ok (.iload_n 3, 1) := by decide +kernel
theorem dX1_add_64 : decode cX1_add 64 = .ok (.if_icmp .ge 24, 3) := by decide +kernel
theorem dX1_add_67 : decode cX1_add 67 = .ok (.aload_n 0, 1) := by decide +kernel
theorem dX1_add_68 : decode cX1_add 68 = .ok (.getfield 22, 3) := by decide +kernel
theorem dX1_add_71 : decode cX1_add 71 = .ok (.iload 4, 2) := by decide +kernel
theorem dX1_add_73 : decode cX1_add 73 = .ok (.bipush 10, 2) := by decide +kernel
theorem dX1_add_75 : decode cX1_add 75 = .ok (.imul, 1) := by decide +kernel
theorem dX1_add_76 : decode cX1_add 76 = .ok (.iload 6, 2) := by decide +kernel
theorem dX1_add_78 : decode cX1_add 78 = .ok (.iadd, 1) := by decide +kernel
theorem dX1_add_79 : decode cX1_add 79 = .ok (.iload 5, 2) := by decide +kernel
theorem dX1_add_81 : decode cX1_add 81 = .ok (.iastore, 1) := by decide +kernel
theorem dX1_add_82 : decode cX1_add 82 = .ok (.iinc 6 1, 3) := by decide +kernel
theorem dX1_add_85 : decode cX1_add 85 = .ok (.goto (-24), 3) := by decide +kernel
theorem dX1_add_88 : decode cX1_add 88 = .ok (.aload_n 0, 1) := by decide +kernel
theorem dX1_add_89 : decode cX1_add 89 = .ok (.dup, 1) := by decide +kernel
theorem dX1_add_90 : decode cX1_add 90 = .ok (.getfield 38, 3) := by decide +kernel
theorem dX1_add_93 : decode cX1_add 93 = .ok (.iconst 1, 1) := by decide +kernel
theorem dX1_add_94 : decode cX1_add 94 = .ok (.iadd, 1) := by decide +kernel
theorem dX1_add_95 : decode cX1_add 95 = .ok (.putfield 38, 3) := by decide +kernel
theorem dX1_add_98 : decode cX1_add 98 = .ok (.iload 4, 2) := by decide +kernel
theorem dX1_add_100 : decode cX1_add 100 = .ok (.ireturn, 1) := by decide +kernel
theorem dX1_found_0 : decode cX1_found 0 = .ok (.aload_n 0, 1) := by decide +kernel
theorem dX1_found_1 : decode cX1_found 1 = .ok (.getfield 31, 3) := by decide +kernel
theorem dX1_found_4 : decode cX1_found 4 = .ok (.iload_n 1, 1) := by decide +kernel
theorem dX1_found_5 : decode cX1_found 5 = .ok (.dup2, 1) := by decide +kernel
theorem dX1_found_6 : decode cX1_found 6 = .ok (.iaload, 1) := by decide +kernel
theorem dX1_found_7 : decode cX1_found 7 = .ok (.iconst 1, 1) := by decide +kernel
theorem dX1_found_8 : decode cX1_found 8 = .ok (.iadd, 1) := by decide +kernel
theorem dX1_found_9 : decode cX1_found 9 = .ok (.iastore, 1) := by decide +kernel
theorem dX1_found_10 : decode cX1_found 10 = .ok (.bipush (-30), 2) := by decide +kernel
theorem dX1_found_12 : decode cX1_found 12 = .ok (.iload_n 1, 1) := by decide +kernel
theorem dX1_found_13 : decode cX1_found 13 = .ok (.isub, 1) := by decide +kernel
theorem dX1_found_14 : decode cX1_found 14 = .ok (.ireturn, 1) := by decide +kernel
set_option maxRecDepth 20000 in
theorem ggX1_isOf_X1_isThing : GoodIn wsX1_isOf wsX1_isThing := goodIn_r _ [6, 7, 11, 12, 13, 14, 15, 16, 17, 18, 19] (by decide +kernel) (by decide +kernel)
set_option maxRecDepth 20000 in
theorem gX1_isOf_X1_isThing : GoodIn wsX1_isOf (wsV RX1 50 RX1 yX1_isThing wsX1_isThing) := goodIn_app (goodIn_of _ (by decide +kernel)) ggX1_isOf_X1_isThing
set_option maxRecDepth 20000 in
theorem ggX1_isOf_X1_formIs : GoodIn wsX1_isOf wsX1_formIs := goodIn_r _ [10] (by decide +kernel) (by decide +kernel)
set_option maxRecDepth 20000 in
theorem gX1_isOf_X1_formIs : GoodIn wsX1_isOf (va_wsS RX1 148 yX1_formIs wsX1_formIs) := goodIn_app (goodIn_of _ (by decide +kernel)) ggX1_isOf_X1_formIs
theorem dX1_isOf_0 : decode cX1_isOf 0 = .ok (.aload_n 0, 1) := by decide +kernel
theorem dX1_isOf_1 : decode cX1_isOf 1 = .ok (.iload_n 1, 1) := by decide +kernel
theorem dX1_isOf_2 : decode cX1_isOf 2 = .ok (.invokevirtual 50, 3) := by decide +kernel
theorem dX1_isOf_5 : decode cX1_isOf 5 = .ok (.ifCond .eq 20, 3) := by decide +kernel
theorem dX1_isOf_8 : decode cX1_isOf 8 = .ok (.aload_n 0, 1) := by decide +kernel
theorem dX1_isOf_9 : decode cX1_isOf 9 = .ok (.getfield 9, 3) := by decide +kernel
theorem dX1_isOf_12 : decode cX1_isOf 12 = .ok (.iload_n 1, 1) := by decide +kernel
theorem dX1_isOf_13 : decode cX1_isOf 13 = .ok (.iaload, 1) := by decide +kernel
theorem dX1_isOf_14 : decode cX1_isOf 14 = .ok (.iload_n 2, 1) := by decide +kernel
theorem dX1_isOf_15 : decode cX1_isOf 15 = .ok (.invokestatic 148, 3) := by decide +kernel
theorem dX1_isOf_18 : decode cX1_isOf 18 = .ok (.ifCond .eq 7, 3) := by decide +kernel
theorem dX1_isOf_21 : decode cX1_isOf 21 = .ok (.iconst 1, 1) := by decide +kernel
theorem dX1_isOf_22 : decode cX1_isOf 22 = .ok (.goto 4, 3) := by decide +kernel
theorem dX1_isOf_25 : decode cX1_isOf 25 = .ok (.iconst 0, 1) := by decide +kernel
theorem dX1_isOf_26 : decode cX1_isOf 26 = .ok (.ireturn, 1) := by decide +kernel
set_option maxRecDepth 20000 in
theorem ggX1_passesFor_X1_isOf : GoodIn wsX1_passesFor wsX1_isOf := goodIn_ca (goodIn_r _ [5, 6, 7, 8, 9, 4, 10, 11, 12, 13, 14, 15, 16, 17, 18, 19, 20, 21, 22, 23] (by decide +kernel) (by decide +kernel)) (goodIn_sub (fun _ h => List.mem_cons_of_mem _ (List.mem_append_right _ h)) (by decide +kernel))
set_option maxRecDepth 20000 in
theorem gX1_passesFor_X1_isOf : GoodIn wsX1_passesFor (wsV RX1 54 RX1 yX1_isOf wsX1_isOf) := goodIn_app (goodIn_of _ (by decide +kernel)) ggX1_passesFor_X1_isOf
theorem dX1_passesFor_0 : decode cX1_passesFor 0 = .ok (.iload_n 1, 1) := by decide +kernel
theorem dX1_passesFor_1 : decode cX1_passesFor 1 = .ok (.bipush (-5), 2) := by decide +kernel
theorem dX1_passesFor_3 : decode cX1_passesFor 3 = .ok (.if_icmp .eq 12, 3) := by decide +kernel
theorem dX1_passesFor_6 : decode cX1_passesFor 6 = .ok (.aload_n 0, 1) := by decide +kernel
theorem dX1_passesFor_7 : decode cX1_passesFor 7 = .ok (.iload_n 1, 1) := by decide +kernel
theorem dX1_passesFor_8 : decode cX1_passesFor 8 = .ok (.iload_n 2, 1) := by decide +kernel
theorem dX1_passesFor_9 : decode cX1_passesFor 9 = .ok (.invokevirtual 54, 3) := by decide +kernel
theorem dX1_passesFor_12 : decode cX1_passesFor 12 = .ok (.ifCond .eq 7, 3) := by decide +kernel
theorem dX1_passesFor_15 : decode cX1_passesFor 15 = .ok (.iconst 1, 1) := by decide +kernel
theorem dX1_passesFor_16 : decode cX1_passesFor 16 = .ok (.goto 4, 3) := by decide +kernel
theorem dX1_passesFor_19 : decode cX1_passesFor 19 = .ok (.iconst 0, 1) := by decide +kernel
theorem dX1_passesFor_20 : decode cX1_passesFor 20 = .ok (.ireturn, 1) := by decide +kernel
theorem dX1_formIs_0 : decode cX1_formIs 0 = .ok (.iload_n 1, 1) := by decide +kernel
theorem dX1_formIs_1 : decode cX1_formIs 1 = .ok (.iload_n 0, 1) := by decide +kernel
theorem dX1_formIs_2 : decode cX1_formIs 2 = .ok (.if_icmp .eq 9, 3) := by decide +kernel
theorem dX1_formIs_5 : decode cX1_formIs 5 = .ok (.iload_n 1, 1) := by decide +kernel
theorem dX1_formIs_6 : decode cX1_formIs 6 = .ok (.bipush 20, 2) := by decide +kernel
theorem dX1_formIs_8 : decode cX1_formIs 8 = .ok (.if_icmp .ne 5, 3) := by decide +kernel
theorem dX1_formIs_11 : decode cX1_formIs 11 = .ok (.iconst 1, 1) := by decide +kernel
theorem dX1_formIs_12 : decode cX1_formIs 12 = .ok (.ireturn, 1) := by decide +kernel
theorem dX1_formIs_13 : decode cX1_formIs 13 = .ok (.iload_n 0, 1) := by decide +kernel
theorem dX1_formIs_14 : decode cX1_formIs 14 = .ok (.tableswitch 145 1 13 #[66, 76, 66, 97, 145, 145, 145, 145, 145, 145, 109, 121, 109], 66) := by decide +kernel
theorem dX1_formIs_80 : decode cX1_formIs 80 = .ok (.iload_n 1, 1) := by decide +kernel
theorem dX1_formIs_81 : decode cX1_formIs 81 = .ok (.ifCond .ne 7, 3) := by decide +kernel
theorem dX1_formIs_84 : decode cX1_formIs 84 = .ok (.iconst 1, 1) := by decide +kernel
theorem dX1_formIs_85 : decode cX1_formIs 85 = .ok (.goto 4, 3) := by decide +kernel
theorem dX1_formIs_88 : decode cX1_formIs 88 = .ok (.iconst 0, 1) := by decide +kernel
theorem dX1_formIs_89 : decode cX1_formIs 89 = .ok (.ireturn, 1) := by decide +kernel
theorem dX1_formIs_90 : decode cX1_formIs 90 = .ok (.iload_n 1, 1) := by decide +kernel
theorem dX1_formIs_91 : decode cX1_formIs 91 = .ok (.ifCond .eq 14, 3) := by decide +kernel
theorem dX1_formIs_94 : decode cX1_formIs 94 = .ok (.iload_n 1, 1) := by decide +kernel
theorem dX1_formIs_95 : decode cX1_formIs 95 = .ok (.iconst 1, 1) := by decide +kernel
theorem dX1_formIs_96 : decode cX1_formIs 96 = .ok (.if_icmp .eq 9, 3) := by decide +kernel
theorem dX1_formIs_99 : decode cX1_formIs 99 = .ok (.iload_n 1, 1) := by decide +kernel
theorem dX1_formIs_100 : decode cX1_formIs 100 = .ok (.bipush 19, 2) := by decide +kernel
theorem dX1_formIs_102 : decode cX1_formIs 102 = .ok (.if_icmp .ne 7, 3) := by decide +kernel
theorem dX1_formIs_105 : decode cX1_formIs 105 = .ok (.iconst 1, 1) := by decide +kernel
theorem dX1_formIs_106 : decode cX1_formIs 106 = .ok (.goto 4, 3) := by decide +kernel
theorem dX1_formIs_109 : decode cX1_formIs 109 = .ok (.iconst 0, 1) := by decide +kernel
theorem dX1_formIs_110 : decode cX1_formIs 110 = .ok (.ireturn, 1) := by decide +kernel
theorem dX1_formIs_111 : decode cX1_formIs 111 = .ok (.iload_n 1, 1) := by decide +kernel
theorem dX1_formIs_112 : decode cX1_formIs 112 = .ok (.bipush 19, 2) := by decide +kernel
theorem dX1_formIs_114 : decode cX1_formIs 114 = .ok (.if_icmp .ne 7, 3) := by decide +kernel
theorem dX1_formIs_117 : decode cX1_formIs 117 = .ok (.iconst 1, 1) := by decide +kernel
theorem dX1_formIs_118 : decode cX1_formIs 118 = .ok (.goto 4, 3) := by decide +kernel
theorem dX1_formIs_121 : decode cX1_formIs 121 = .ok (.iconst 0, 1) := by decide +kernel
theorem dX1_formIs_122 : decode cX1_formIs 122 = .ok (.ireturn, 1) := by decide +kernel
theorem dX1_formIs_123 : decode cX1_formIs 123 = .ok (.iload_n 1, 1) := by decide +kernel
theorem dX1_formIs_124 : decode cX1_formIs 124 = .ok (.bipush 10, 2) := by decide +kernel
theorem dX1_formIs_126 : decode cX1_formIs 126 = .ok (.if_icmp .ne 7, 3) := by decide +kernel
theorem dX1_formIs_129 : decode cX1_formIs 129 = .ok (.iconst 1, 1) := by decide +kernel
theorem dX1_formIs_130 : decode cX1_formIs 130 = .ok (.goto 4, 3) := by decide +kernel
theorem dX1_formIs_133 : decode cX1_formIs 133 = .ok (.iconst 0, 1) := by decide +kernel
theorem dX1_formIs_134 : decode cX1_formIs 134 = .ok (.ireturn, 1) := by decide +kernel
theorem dX1_formIs_135 : decode cX1_formIs 135 = .ok (.iload_n 1, 1) := by decide +kernel
theorem dX1_formIs_136 : decode cX1_formIs 136 = .ok (.bipush 10, 2) := by decide +kernel
theorem dX1_formIs_138 : decode cX1_formIs 138 = .ok (.if_icmp .eq 15, 3) := by decide +kernel
theorem dX1_formIs_141 : decode cX1_formIs 141 = .ok (.iload_n 1, 1) := by decide +kernel
theorem dX1_formIs_142 : decode cX1_formIs 142 = .ok (.bipush 11, 2) := by decide +kernel
theorem dX1_formIs_144 : decode cX1_formIs 144 = .ok (.if_icmp .eq 9, 3) := by decide +kernel
theorem dX1_formIs_147 : decode cX1_formIs 147 = .ok (.iload_n 1, 1) := by decide +kernel
theorem dX1_formIs_148 : decode cX1_formIs 148 = .ok (.bipush 14, 2) := by decide +kernel
theorem dX1_formIs_150 : decode cX1_formIs 150 = .ok (.if_icmp .ne 7, 3) := by decide +kernel
theorem dX1_formIs_153 : decode cX1_formIs 153 = .ok (.iconst 1, 1) := by decide +kernel
theorem dX1_formIs_154 : decode cX1_formIs 154 = .ok (.goto 4, 3) := by decide +kernel
theorem dX1_formIs_157 : decode cX1_formIs 157 = .ok (.iconst 0, 1) := by decide +kernel
theorem dX1_formIs_158 : decode cX1_formIs 158 = .ok (.ireturn, 1) := by decide +kernel
theorem dX1_formIs_159 : decode cX1_formIs 159 = .ok (.iconst 0, 1) := by decide +kernel
theorem dX1_formIs_160 : decode cX1_formIs 160 = .ok (.ireturn, 1) := by decide +kernel
theorem dX1_partOf_0 : decode cX1_partOf 0 = .ok (.iload_n 0, 1) := by decide +kernel
theorem dX1_partOf_1 : decode cX1_partOf 1 = .ok (.tableswitch 74 9 17 #[51, 54, 56, 58, 60, 62, 65, 68, 71], 51) := by decide +kernel
theorem dX1_partOf_52 : decode cX1_partOf 52 = .ok (.bipush 6, 2) := by decide +kernel
theorem dX1_partOf_54 : decode cX1_partOf 54 = .ok (.ireturn, 1) := by decide +kernel
theorem dX1_partOf_55 : decode cX1_partOf 55 = .ok (.iconst 0, 1) := by decide +kernel
theorem dX1_partOf_56 : decode cX1_partOf 56 = .ok (.ireturn, 1) := by decide +kernel
theorem dX1_partOf_57 : decode cX1_partOf 57 = .ok (.iconst 1, 1) := by decide +kernel
theorem dX1_partOf_58 : decode cX1_partOf 58 = .ok (.ireturn, 1) := by decide +kernel
theorem dX1_partOf_59 : decode cX1_partOf 59 = .ok (.iconst 2, 1) := by decide +kernel
theorem dX1_partOf_60 : decode cX1_partOf 60 = .ok (.ireturn, 1) := by decide +kernel
theorem dX1_partOf_61 : decode cX1_partOf 61 = .ok (.iconst 3, 1) := by decide +kernel
theorem dX1_partOf_62 : decode cX1_partOf 62 = .ok (.ireturn, 1) := by decide +kernel
theorem dX1_partOf_63 : decode cX1_partOf 63 = .ok (.bipush 19, 2) := by decide +kernel
theorem dX1_partOf_65 : decode cX1_partOf 65 = .ok (.ireturn, 1) := by decide +kernel
theorem dX1_partOf_66 : decode cX1_partOf 66 = .ok (.bipush 11, 2) := by decide +kernel
theorem dX1_partOf_68 : decode cX1_partOf 68 = .ok (.ireturn, 1) := by decide +kernel
theorem dX1_partOf_69 : decode cX1_partOf 69 = .ok (.bipush 14, 2) := by decide +kernel
theorem dX1_partOf_71 : decode cX1_partOf 71 = .ok (.ireturn, 1) := by decide +kernel
theorem dX1_partOf_72 : decode cX1_partOf 72 = .ok (.bipush 15, 2) := by decide +kernel
theorem dX1_partOf_74 : decode cX1_partOf 74 = .ok (.ireturn, 1) := by decide +kernel
theorem dX1_partOf_75 : decode cX1_partOf 75 = .ok (.bipush (-5), 2) := by decide +kernel
theorem dX1_partOf_77 : decode cX1_partOf 77 = .ok (.ireturn, 1) := by decide +kernel
theorem dX1_worthOf_0 : decode cX1_worthOf 0 = .ok (.iload_n 1, 1) := by decide +kernel
theorem dX1_worthOf_1 : decode cX1_worthOf 1 = .ok (.iconst 1, 1) := by decide +kernel
theorem dX1_worthOf_2 : decode cX1_worthOf 2 = .ok (.iadd, 1) := by decide +kernel
theorem dX1_worthOf_3 : decode cX1_worthOf 3 = .ok (.istore_n 2, 1) := by decide +kernel
theorem dX1_worthOf_4 : decode cX1_worthOf 4 = .ok (.iload_n 0, 1) := by decide +kernel
theorem dX1_worthOf_5 : decode cX1_worthOf 5 = .ok (.lookupswitch 38 #[(1, 27), (2, 31)], 27) := by decide +kernel
theorem dX1_worthOf_32 : decode cX1_worthOf 32 = .ok (.iload_n 2, 1) := by decide +kernel
theorem dX1_worthOf_33 : decode cX1_worthOf 33 = .ok (.iconst 2, 1) := by decide +kernel
theorem dX1_worthOf_34 : decode cX1_worthOf 34 = .ok (.imul, 1) := by decide +kernel
theorem dX1_worthOf_35 : decode cX1_worthOf 35 = .ok (.ireturn, 1) := by decide +kernel
theorem dX1_worthOf_36 : decode cX1_worthOf 36 = .ok (.iload_n 2, 1) := by decide +kernel
theorem dX1_worthOf_37 : decode cX1_worthOf 37 = .ok (.iconst 2, 1) := by decide +kernel
theorem dX1_worthOf_38 : decode cX1_worthOf 38 = .ok (.imul, 1) := by decide +kernel
theorem dX1_worthOf_39 : decode cX1_worthOf 39 = .ok (.bipush 100, 2) := by decide +kernel
theorem dX1_worthOf_41 : decode cX1_worthOf 41 = .ok (.iadd, 1) := by decide +kernel
theorem dX1_worthOf_42 : decode cX1_worthOf 42 = .ok (.ireturn, 1) := by decide +kernel
theorem dX1_worthOf_43 : decode cX1_worthOf 43 = .ok (.iload_n 2, 1) := by decide +kernel
theorem dX1_worthOf_44 : decode cX1_worthOf 44 = .ok (.ireturn, 1) := by decide +kernel
theorem dX1_lowestBits_0 : decode cX1_lowestBits 0 = .ok (.iload_n 0, 1) := by decide +kernel
theorem dX1_lowestBits_1 : decode cX1_lowestBits 1 = .ok (.tableswitch 43 5 7 #[27, 34, 38], 27) := by decide +kernel
theorem dX1_lowestBits_28 : decode cX1_lowestBits 28 = .ok (.lload_n 1, 1) := by decide +kernel
theorem dX1_lowestBits_29 : decode cX1_lowestBits 29 = .ok (.ldc2_w 151, 3) := by decide +kernel
theorem dX1_lowestBits_32 : decode cX1_lowestBits 32 = .ok (.land, 1) := by decide +kernel
theorem dX1_lowestBits_33 : decode cX1_lowestBits 33 = .ok (.l2i, 1) := by decide +kernel
theorem dX1_lowestBits_34 : decode cX1_lowestBits 34 = .ok (.ireturn, 1) := by decide +kernel
theorem dX1_lowestBits_35 : decode cX1_lowestBits 35 = .ok (.lload_n 1, 1) := by decide +kernel
theorem dX1_lowestBits_36 : decode cX1_lowestBits 36 = .ok (.l2i, 1) := by decide +kernel
theorem dX1_lowestBits_37 : decode cX1_lowestBits 37 = .ok (.i2s, 1) := by decide +kernel
theorem dX1_lowestBits_38 : decode cX1_lowestBits 38 = .ok (.ireturn, 1) := by decide +kernel
theorem dX1_lowestBits_39 : decode cX1_lowestBits 39 = .ok (.lload_n 1, 1) := by decide +kernel
theorem dX1_lowestBits_40 : decode cX1_lowestBits 40 = .ok (.lconst 1, 1) := by decide +kernel
theorem dX1_lowestBits_41 : decode cX1_lowestBits 41 = .ok (.land, 1) := by decide +kernel
theorem dX1_lowestBits_42 : decode cX1_lowestBits 42 = .ok (.l2i, 1) := by decide +kernel
theorem dX1_lowestBits_43 : decode cX1_lowestBits 43 = .ok (.ireturn, 1) := by decide +kernel
theorem dX1_lowestBits_44 : decode cX1_lowestBits 44 = .ok (.lload_n 1, 1) := by decide +kernel
theorem dX1_lowestBits_45 : decode cX1_lowestBits 45 = .ok (.l2i, 1) := by decide +kernel
theorem dX1_lowestBits_46 : decode cX1_lowestBits 46 = .ok (.ireturn, 1) := by decide +kernel
set_option maxRecDepth 20000 in
theorem ggX1_leadsTo_X1_isCase : GoodIn wsX1_leadsTo wsX1_isCase := goodIn_ca (goodIn_r _ [6, 7, 8, 9, 10, 5, 11, 12, 13, 14, 15, 16, 17, 18, 19, 20, 21] (by decide +kernel) (by decide +kernel)) (goodIn_sub (fun _ h => List.mem_cons_of_mem _ (List.mem_append_right _ h)) (by decide +kernel))
set_option maxRecDepth 20000 in
theorem gX1_leadsTo_X1_isCase : GoodIn wsX1_leadsTo (wsV RX1 90 RX1 yX1_isCase wsX1_isCase) := goodIn_app (goodIn_of _ (by decide +kernel)) ggX1_leadsTo_X1_isCase
theorem dX1_leadsTo_0 : decode cX1_leadsTo 0 = .ok (.iload_n 1, 1) := by decide +kernel
theorem dX1_leadsTo_1 : decode cX1_leadsTo 1 = .ok (.istore_n 3, 1) := by decide +kernel
theorem dX1_leadsTo_2 : decode cX1_leadsTo 2 = .ok (.iconst 0, 1) := by decide +kernel
theorem dX1_leadsTo_3 : decode cX1_leadsTo 3 = .ok (.istore 4, 2) := by decide +kernel
theorem dX1_leadsTo_5 : decode cX1_leadsTo 5 = .ok (.iload 4, 2) := by decide +kernel
theorem dX1_leadsTo_7 : decode cX1_leadsTo 7 = .ok (.bipush 110, 2) := by decide +kernel
theorem dX1_leadsTo_9 : decode cX1_leadsTo 9 = .ok (.if_icmp .ge 29, 3) := by decide +kernel
theorem dX1_leadsTo_12 : decode cX1_leadsTo 12 = .ok (.iload_n 3, 1) := by decide +kernel
theorem dX1_leadsTo_13 : decode cX1_leadsTo 13 = .ok (.iload_n 2, 1) := by decide +kernel
theorem dX1_leadsTo_14 : decode cX1_leadsTo 14 = .ok (.if_icmp .eq 24, 3) := by decide +kernel
theorem dX1_leadsTo_17 : decode cX1_leadsTo 17 = .ok (.aload_n 0, 1) := by decide +kernel
theorem dX1_leadsTo_18 : decode cX1_leadsTo 18 = .ok (.iload_n 3, 1) := by decide +kernel
theorem dX1_leadsTo_19 : decode cX1_leadsTo 19 = .ok (.invokevirtual 90, 3) := by decide +kernel
theorem dX1_leadsTo_22 : decode cX1_leadsTo 22 = .ok (.ifCond .eq 16, 3) := by decide +kernel
theorem dX1_leadsTo_25 : decode cX1_leadsTo 25 = .ok (.aload_n 0, 1) := by decide +kernel
theorem dX1_leadsTo_26 : decode cX1_leadsTo 26 = .ok (.getfield 19, 3) := by decide +kernel
theorem dX1_leadsTo_29 : decode cX1_leadsTo 29 = .ok (.iload_n 3, 1) := by decide +kernel
theorem dX1_leadsTo_30 : decode cX1_leadsTo 30 = .ok (.iaload, 1) := by decide +kernel
theorem dX1_leadsTo_31 : decode cX1_leadsTo 31 = .ok (.istore_n 3, 1) := by decide +kernel
theorem dX1_leadsTo_32 : decode cX1_leadsTo 32 = .ok (.iinc 4 1, 3) := by decide +kernel
theorem dX1_leadsTo_35 : decode cX1_leadsTo 35 = .ok (.goto (-30), 3) := by decide +kernel
theorem dX1_leadsTo_38 : decode cX1_leadsTo 38 = .ok (.iload_n 3, 1) := by decide +kernel
theorem dX1_leadsTo_39 : decode cX1_leadsTo 39 = .ok (.iload_n 2, 1) := by decide +kernel
theorem dX1_leadsTo_40 : decode cX1_leadsTo 40 = .ok (.if_icmp .ne 7, 3) := by decide +kernel
theorem dX1_leadsTo_43 : decode cX1_leadsTo 43 = .ok (.iconst 1, 1) := by decide +kernel
theorem dX1_leadsTo_44 : decode cX1_leadsTo 44 = .ok (.goto 4, 3) := by decide +kernel
theorem dX1_leadsTo_47 : decode cX1_leadsTo 47 = .ok (.iconst 0, 1) := by decide +kernel
theorem dX1_leadsTo_48 : decode cX1_leadsTo 48 = .ok (.ireturn, 1) := by decide +kernel
set_option maxRecDepth 20000 in
theorem ggX1_innermostOf_X1_isCase : GoodIn wsX1_innermostOf wsX1_isCase := goodIn_ca (goodIn_r _ [6, 7, 8, 9, 10, 5, 11, 12, 13, 14, 15, 16, 17, 18, 19, 20, 21] (by decide +kernel) (by decide +kernel)) (goodIn_sub (fun _ h => List.mem_cons_of_mem _ (List.mem_append_right _ h)) (by decide +kernel))
set_option maxRecDepth 20000 in
theorem gX1_innermostOf_X1_isCase : GoodIn wsX1_innermostOf (wsV RX1 90 RX1 yX1_isCase wsX1_isCase) := goodIn_app (goodIn_of _ (by decide +kernel)) ggX1_innermostOf_X1_isCase
theorem dX1_innermostOf_0 : decode cX1_innermostOf 0 = .ok (.aload_n 0, 1) := by decide +kernel
theorem dX1_innermostOf_1 : decode cX1_innermostOf 1 = .ok (.getfield 19, 3) := by decide +kernel
theorem dX1_innermostOf_4 : decode cX1_innermostOf 4 = .ok (.iload_n 1, 1) := by decide +kernel
theorem dX1_innermostOf_5 : decode cX1_innermostOf 5 = .ok (.iaload, 1) := by decide +kernel
theorem dX1_innermostOf_6 : decode cX1_innermostOf 6 = .ok (.istore_n 2, 1) := by decide +kernel
theorem dX1_innermostOf_7 : decode cX1_innermostOf 7 = .ok (.iconst 0, 1) := by decide +kernel
theorem dX1_innermostOf_8 : decode cX1_innermostOf 8 = .ok (.istore_n 3, 1) := by decide +kernel
theorem dX1_innermostOf_9 : decode cX1_innermostOf 9 = .ok (.iload_n 3, 1) := by decide +kernel
theorem dX1_innermostOf_10 : decode cX1_innermostOf 10 = .ok (.bipush 110, 2) := by decide +kernel
theorem dX1_innermostOf_12 : decode cX1_innermostOf 12 = .ok (.if_icmp .ge 24, 3) := by decide +kernel
theorem dX1_innermostOf_15 : decode cX1_innermostOf 15 = .ok (.aload_n 0, 1) := by decide +kernel
theorem dX1_innermostOf_16 : decode cX1_innermostOf 16 = .ok (.iload_n 2, 1) := by decide +kernel
theorem dX1_innermostOf_17 : decode cX1_innermostOf 17 = .ok (.invokevirtual 90, 3) := by decide +kernel
theorem dX1_innermostOf_20 : decode cX1_innermostOf 20 = .ok (.ifCond .eq 16, 3) := by decide +kernel
theorem dX1_innermostOf_23 : decode cX1_innermostOf 23 = .ok (.aload_n 0, 1) := by decide +kernel
theorem dX1_innermostOf_24 : decode cX1_innermostOf 24 = .ok (.getfield 19, 3) := by decide +kernel
theorem dX1_innermostOf_27 : decode cX1_innermostOf 27 = .ok (.iload_n 2, 1) := by decide +kernel
theorem dX1_innermostOf_28 : decode cX1_innermostOf 28 = .ok (.iaload, 1) := by decide +kernel
theorem dX1_innermostOf_29 : decode cX1_innermostOf 29 = .ok (.istore_n 2, 1) := by decide +kernel
theorem dX1_innermostOf_30 : decode cX1_innermostOf 30 = .ok (.iinc 3 1, 3) := by decide +kernel
theorem dX1_innermostOf_33 : decode cX1_innermostOf 33 = .ok (.goto (-24), 3) := by decide +kernel
theorem dX1_innermostOf_36 : decode cX1_innermostOf 36 = .ok (.iload_n 2, 1) := by decide +kernel
theorem dX1_innermostOf_37 : decode cX1_innermostOf 37 = .ok (.ireturn, 1) := by decide +kernel
set_option maxRecDepth 20000 in
theorem ggX1_loadWant_X1_isOf : GoodIn wsX1_loadWant wsX1_isOf := goodIn_ca (goodIn_r _ [6, 7, 8, 9, 10, 5, 11, 12, 13, 14, 15, 22, 23, 24, 25, 26, 27, 28, 29, 30] (by decide +kernel) (by decide +kernel)) (goodIn_sub (fun _ h => List.mem_cons_of_mem _ (List.mem_append_right _ h)) (by decide +kernel))
set_option maxRecDepth 20000 in
theorem gX1_loadWant_X1_isOf : GoodIn wsX1_loadWant (wsV RX1 54 RX1 yX1_isOf wsX1_isOf) := goodIn_app (goodIn_of _ (by decide +kernel)) ggX1_loadWant_X1_isOf
theorem dX1_loadWant_0 : decode cX1_loadWant 0 = .ok (.aload_n 1, 1) := by decide +kernel
theorem dX1_loadWant_1 : decode cX1_loadWant 1 = .ok (.getfield 113, 3) := by decide +kernel
theorem dX1_loadWant_4 : decode cX1_loadWant 4 = .ok (.iload_n 2, 1) := by decide +kernel
theorem dX1_loadWant_5 : decode cX1_loadWant 5 = .ok (.iaload, 1) := by decide +kernel
theorem dX1_loadWant_6 : decode cX1_loadWant 6 = .ok (.istore_n 3, 1) := by decide +kernel
theorem dX1_loadWant_7 : decode cX1_loadWant 7 = .ok (.aload_n 0, 1) := by decide +kernel
theorem dX1_loadWant_8 : decode cX1_loadWant 8 = .ok (.getfield 19, 3) := by decide +kernel
theorem dX1_loadWant_11 : decode cX1_loadWant 11 = .ok (.iload_n 3, 1) := by decide +kernel
theorem dX1_loadWant_12 : decode cX1_loadWant 12 = .ok (.iaload, 1) := by decide +kernel
theorem dX1_loadWant_13 : decode cX1_loadWant 13 = .ok (.istore 4, 2) := by decide +kernel
theorem dX1_loadWant_15 : decode cX1_loadWant 15 = .ok (.iload 4, 2) := by decide +kernel
theorem dX1_loadWant_17 : decode cX1_loadWant 17 = .ok (.bipush (-5), 2) := by decide +kernel
theorem dX1_loadWant_19 : decode cX1_loadWant 19 = .ok (.if_icmp .ne 5, 3) := by decide +kernel
theorem dX1_loadWant_22 : decode cX1_loadWant 22 = .ok (.iconst 2, 1) := by decide +kernel
theorem dX1_loadWant_23 : decode cX1_loadWant 23 = .ok (.ireturn, 1) := by decide +kernel
theorem dX1_loadWant_24 : decode cX1_loadWant 24 = .ok (.aload_n 0, 1) := by decide +kernel
theorem dX1_loadWant_25 : decode cX1_loadWant 25 = .ok (.iload 4, 2) := by decide +kernel
theorem dX1_loadWant_27 : decode cX1_loadWant 27 = .ok (.aload_n 1, 1) := by decide +kernel
theorem dX1_loadWant_28 : decode cX1_loadWant 28 = .ok (.getfield 116, 3) := by decide +kernel
theorem dX1_loadWant_31 : decode cX1_loadWant 31 = .ok (.iload_n 2, 1) := by decide +kernel
theorem dX1_loadWant_32 : decode cX1_loadWant 32 = .ok (.iaload, 1) := by decide +kernel
theorem dX1_loadWant_33 : decode cX1_loadWant 33 = .ok (.invokevirtual 54, 3) := by decide +kernel
theorem dX1_loadWant_36 : decode cX1_loadWant 36 = .ok (.ifCond .ne 5, 3) := by decide +kernel
theorem dX1_loadWant_39 : decode cX1_loadWant 39 = .ok (.iconst 1, 1) := by decide +kernel
theorem dX1_loadWant_40 : decode cX1_loadWant 40 = .ok (.ireturn, 1) := by decide +kernel
theorem dX1_loadWant_41 : decode cX1_loadWant 41 = .ok (.aload_n 1, 1) := by decide +kernel
theorem dX1_loadWant_42 : decode cX1_loadWant 42 = .ok (.getfield 141, 3) := by decide +kernel
theorem dX1_loadWant_45 : decode cX1_loadWant 45 = .ok (.iload_n 2, 1) := by decide +kernel
theorem dX1_loadWant_46 : decode cX1_loadWant 46 = .ok (.iload 4, 2) := by decide +kernel
theorem dX1_loadWant_48 : decode cX1_loadWant 48 = .ok (.iastore, 1) := by decide +kernel
theorem dX1_loadWant_49 : decode cX1_loadWant 49 = .ok (.aload_n 0, 1) := by decide +kernel
theorem dX1_loadWant_50 : decode cX1_loadWant 50 = .ok (.getfield 19, 3) := by decide +kernel
theorem dX1_loadWant_53 : decode cX1_loadWant 53 = .ok (.iload_n 3, 1) := by decide +kernel
theorem dX1_loadWant_54 : decode cX1_loadWant 54 = .ok (.bipush (-5), 2) := by decide +kernel
theorem dX1_loadWant_56 : decode cX1_loadWant 56 = .ok (.iastore, 1) := by decide +kernel
theorem dX1_loadWant_57 : decode cX1_loadWant 57 = .ok (.iconst 0, 1) := by decide +kernel
theorem dX1_loadWant_58 : decode cX1_loadWant 58 = .ok (.ireturn, 1) := by decide +kernel
set_option maxRecDepth 20000 in
theorem ggX1_unloadWant_X1_leadsTo : GoodIn wsX1_unloadWant wsX1_leadsTo := goodIn_ca (goodIn_r _ [6, 1, 7, 8, 9, 5, 10, 11, 12, 13, 14, 15, 16, 23, 24, 25, 26, 27, 28, 29, 30, 31] (by decide +kernel) (by decide +kernel)) (goodIn_sub (fun _ h => List.mem_cons_of_mem _ (List.mem_append_right _ h)) (by decide +kernel))
set_option maxRecDepth 20000 in
theorem gX1_unloadWant_X1_leadsTo : GoodIn wsX1_unloadWant (wsV RX1 93 RX1 yX1_leadsTo wsX1_leadsTo) := goodIn_app (goodIn_of _ (by decide +kernel)) ggX1_unloadWant_X1_leadsTo
theorem dX1_unloadWant_0 : decode cX1_unloadWant 0 = .ok (.aload_n 1, 1) := by decide +kernel
theorem dX1_unloadWant_1 : decode cX1_unloadWant 1 = .ok (.getfield 141, 3) := by decide +kernel
theorem dX1_unloadWant_4 : decode cX1_unloadWant 4 = .ok (.iload_n 2, 1) := by decide +kernel
theorem dX1_unloadWant_5 : decode cX1_unloadWant 5 = .ok (.iaload, 1) := by decide +kernel
theorem dX1_unloadWant_6 : decode cX1_unloadWant 6 = .ok (.istore_n 3, 1) := by decide +kernel
theorem dX1_unloadWant_7 : decode cX1_unloadWant 7 = .ok (.aload_n 1, 1) := by decide +kernel
theorem dX1_unloadWant_8 : decode cX1_unloadWant 8 = .ok (.getfield 113, 3) := by decide +kernel
theorem dX1_unloadWant_11 : decode cX1_unloadWant 11 = .ok (.iload_n 2, 1) := by decide +kernel
theorem dX1_unloadWant_12 : decode cX1_unloadWant 12 = .ok (.iaload, 1) := by decide +kernel
theorem dX1_unloadWant_13 : decode cX1_unloadWant 13 = .ok (.istore 4, 2) := by decide +kernel
theorem dX1_unloadWant_15 : decode cX1_unloadWant 15 = .ok (.iload_n 3, 1) := by decide +kernel
theorem dX1_unloadWant_16 : decode cX1_unloadWant 16 = .ok (.bipush (-5), 2) := by decide +kernel
theorem dX1_unloadWant_18 : decode cX1_unloadWant 18 = .ok (.if_icmp .eq 25, 3) := by decide +kernel
theorem dX1_unloadWant_21 : decode cX1_unloadWant 21 = .ok (.aload_n 0, 1) := by decide +kernel
theorem dX1_unloadWant_22 : decode cX1_unloadWant 22 = .ok (.getfield 19, 3) := by decide +kernel
theorem dX1_unloadWant_25 : decode cX1_unloadWant 25 = .ok (.iload 4, 2) := by decide +kernel
theorem dX1_unloadWant_27 : decode cX1_unloadWant 27 = .ok (.iaload, 1) := by decide +kernel
theorem dX1_unloadWant_28 : decode cX1_unloadWant 28 = .ok (.bipush (-5), 2) := by decide +kernel
theorem dX1_unloadWant_30 : decode cX1_unloadWant 30 = .ok (.if_icmp .ne 13, 3) := by decide +kernel
theorem dX1_unloadWant_33 : decode cX1_unloadWant 33 = .ok (.aload_n 0, 1) := by decide +kernel
theorem dX1_unloadWant_34 : decode cX1_unloadWant 34 = .ok (.iload_n 3, 1) := by decide +kernel
theorem dX1_unloadWant_35 : decode cX1_unloadWant 35 = .ok (.iload 4, 2) := by decide +kernel
theorem dX1_unloadWant_37 : decode cX1_unloadWant 37 = .ok (.invokevirtual 93, 3) := by decide +kernel
theorem dX1_unloadWant_40 : decode cX1_unloadWant 40 = .ok (.ifCond .eq 5, 3) := by decide +kernel
theorem dX1_unloadWant_43 : decode cX1_unloadWant 43 = .ok (.iconst 0, 1) := by decide +kernel
theorem dX1_unloadWant_44 : decode cX1_unloadWant 44 = .ok (.ireturn, 1) := by decide +kernel
theorem dX1_unloadWant_45 : decode cX1_unloadWant 45 = .ok (.aload_n 0, 1) := by decide +kernel
theorem dX1_unloadWant_46 : decode cX1_unloadWant 46 = .ok (.getfield 19, 3) := by decide +kernel
theorem dX1_unloadWant_49 : decode cX1_unloadWant 49 = .ok (.iload 4, 2) := by decide +kernel
theorem dX1_unloadWant_51 : decode cX1_unloadWant 51 = .ok (.iload_n 3, 1) := by decide +kernel
theorem dX1_unloadWant_52 : decode cX1_unloadWant 52 = .ok (.iastore, 1) := by decide +kernel
theorem dX1_unloadWant_53 : decode cX1_unloadWant 53 = .ok (.aload_n 1, 1) := by decide +kernel
theorem dX1_unloadWant_54 : decode cX1_unloadWant 54 = .ok (.getfield 141, 3) := by decide +kernel
theorem dX1_unloadWant_57 : decode cX1_unloadWant 57 = .ok (.iload_n 2, 1) := by decide +kernel
theorem dX1_unloadWant_58 : decode cX1_unloadWant 58 = .ok (.bipush (-5), 2) := by decide +kernel
theorem dX1_unloadWant_60 : decode cX1_unloadWant 60 = .ok (.iastore, 1) := by decide +kernel
theorem dX1_unloadWant_61 : decode cX1_unloadWant 61 = .ok (.iconst 1, 1) := by decide +kernel
theorem dX1_unloadWant_62 : decode cX1_unloadWant 62 = .ok (.ireturn, 1) := by decide +kernel
theorem dX1_countCases_0 : decode cX1_countCases 0 = .ok (.iconst 0, 1) := by decide +kernel
theorem dX1_countCases_1 : decode cX1_countCases 1 = .ok (.istore_n 2, 1) := by decide +kernel
theorem dX1_countCases_2 : decode cX1_countCases 2 = .ok (.iconst 0, 1) := by decide +kernel
theorem dX1_countCases_3 : decode cX1_countCases 3 = .ok (.istore_n 3, 1) := by decide +kernel
theorem dX1_countCases_4 : decode cX1_countCases 4 = .ok (.iload_n 3, 1) := by decide +kernel
theorem dX1_countCases_5 : decode cX1_countCases 5 = .ok (.aload_n 0, 1) := by decide +kernel
theorem dX1_countCases_6 : decode cX1_countCases 6 = .ok (.getfield 38, 3) := by decide +kernel
theorem dX1_countCases_9 : decode cX1_countCases 9 = .ok (.if_icmp .ge 38, 3) := by decide +kernel
theorem dX1_countCases_12 : decode cX1_countCases 12 = .ok (.aload_n 0, 1) := by decide +kernel
theorem dX1_countCases_13 : decode cX1_countCases 13 = .ok (.getfield 9, 3) := by decide +kernel
theorem dX1_countCases_16 : decode cX1_countCases 16 = .ok (.iload_n 3, 1) := by decide +kernel
theorem dX1_countCases_17 : decode cX1_countCases 17 = .ok (.iaload, 1) := by decide +kernel
theorem dX1_countCases_18 : decode cX1_countCases 18 = .ok (.bipush 18, 2) := by decide +kernel
theorem dX1_countCases_20 : decode cX1_countCases 20 = .ok (.if_icmp .ne 21, 3) := by decide +kernel
theorem dX1_countCases_23 : decode cX1_countCases 23 = .ok (.iload_n 1, 1) := by decide +kernel
theorem dX1_countCases_24 : decode cX1_countCases 24 = .ok (.ifCond .eq 14, 3) := by decide +kernel
theorem dX1_countCases_27 : decode cX1_countCases 27 = .ok (.aload_n 0, 1) := by decide +kernel
theorem dX1_countCases_28 : decode cX1_countCases 28 = .ok (.getfield 19, 3) := by decide +kernel
theorem dX1_countCases_31 : decode cX1_countCases 31 = .ok (.iload_n 3, 1) := by decide +kernel
theorem dX1_countCases_32 : decode cX1_countCases 32 = .ok (.iaload, 1) := by decide +kernel
theorem dX1_countCases_33 : decode cX1_countCases 33 = .ok (.bipush (-5), 2) := by decide +kernel
theorem dX1_countCases_35 : decode cX1_countCases 35 = .ok (.if_icmp .eq 6, 3) := by decide +kernel
theorem dX1_countCases_38 : decode cX1_countCases 38 = .ok (.iinc 2 1, 3) := by decide +kernel
theorem dX1_countCases_41 : decode cX1_countCases 41 = .ok (.iinc 3 1, 3) := by decide +kernel
theorem dX1_countCases_44 : decode cX1_countCases 44 = .ok (.goto (-40), 3) := by decide +kernel
theorem dX1_countCases_47 : decode cX1_countCases 47 = .ok (.iload_n 2, 1) := by decide +kernel
theorem dX1_countCases_48 : decode cX1_countCases 48 = .ok (.ireturn, 1) := by decide +kernel
