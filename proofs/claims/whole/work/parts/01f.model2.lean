theorem dX2_at_7 : decode cX2_at 7 = .ok (.iload_n 2, 1) := by decide +kernel
theorem dX2_at_8 : decode cX2_at 8 = .ok (.bipush 9, 2) := by decide +kernel
theorem dX2_at_10 : decode cX2_at 10 = .ok (.bipush 17, 2) := by decide +kernel
theorem dX2_at_12 : decode cX2_at 12 = .ok (.invokevirtual 104, 3) := by decide +kernel
theorem dX2_at_15 : decode cX2_at 15 = .ok (.istore 4, 2) := by decide +kernel
theorem dX2_at_17 : decode cX2_at 17 = .ok (.iload 4, 2) := by decide +kernel
theorem dX2_at_19 : decode cX2_at 19 = .ok (.ifCond .ge 6, 3) := by decide +kernel
theorem dX2_at_22 : decode cX2_at 22 = .ok (.iload 4, 2) := by decide +kernel
theorem dX2_at_24 : decode cX2_at 24 = .ok (.ireturn, 1) := by decide +kernel
theorem dX2_at_25 : decode cX2_at 25 = .ok (.aload_n 0, 1) := by decide +kernel
theorem dX2_at_26 : decode cX2_at 26 = .ok (.iload_n 1, 1) := by decide +kernel
theorem dX2_at_27 : decode cX2_at 27 = .ok (.iload_n 2, 1) := by decide +kernel
theorem dX2_at_28 : decode cX2_at 28 = .ok (.invokevirtual 95, 3) := by decide +kernel
theorem dX2_at_31 : decode cX2_at 31 = .ok (.ifCond .ne 9, 3) := by decide +kernel
theorem dX2_at_34 : decode cX2_at 34 = .ok (.aload_n 0, 1) := by decide +kernel
theorem dX2_at_35 : decode cX2_at 35 = .ok (.iconst 1, 1) := by decide +kernel
theorem dX2_at_36 : decode cX2_at 36 = .ok (.invokevirtual 89, 3) := by decide +kernel
theorem dX2_at_39 : decode cX2_at 39 = .ok (.ireturn, 1) := by decide +kernel
theorem dX2_at_40 : decode cX2_at 40 = .ok (.iload_n 3, 1) := by decide +kernel
theorem dX2_at_41 : decode cX2_at 41 = .ok (.i2l, 1) := by decide +kernel
theorem dX2_at_42 : decode cX2_at 42 = .ok (.lconst 0, 1) := by decide +kernel
theorem dX2_at_43 : decode cX2_at 43 = .ok (.aload_n 0, 1) := by decide +kernel
theorem dX2_at_44 : decode cX2_at 44 = .ok (.getfield 16, 3) := by decide +kernel
theorem dX2_at_47 : decode cX2_at 47 = .ok (.iload_n 1, 1) := by decide +kernel
theorem dX2_at_48 : decode cX2_at 48 = .ok (.iaload, 1) := by decide +kernel
theorem dX2_at_49 : decode cX2_at 49 = .ok (.iconst 1, 1) := by decide +kernel
theorem dX2_at_50 : decode cX2_at 50 = .ok (.isub, 1) := by decide +kernel
theorem dX2_at_51 : decode cX2_at 51 = .ok (.i2l, 1) := by decide +kernel
theorem dX2_at_52 : decode cX2_at 52 = .ok (.invokestatic 66, 3) := by decide +kernel
theorem dX2_at_55 : decode cX2_at 55 = .ok (.ifCond .eq 20, 3) := by decide +kernel
theorem dX2_at_58 : decode cX2_at 58 = .ok (.aload_n 0, 1) := by decide +kernel
theorem dX2_at_59 : decode cX2_at 59 = .ok (.getfield 23, 3) := by decide +kernel
theorem dX2_at_62 : decode cX2_at 62 = .ok (.bipush 10, 2) := by decide +kernel
theorem dX2_at_64 : decode cX2_at 64 = .ok (.iload_n 1, 1) := by decide +kernel
theorem dX2_at_65 : decode cX2_at 65 = .ok (.imul, 1) := by decide +kernel
theorem dX2_at_66 : decode cX2_at 66 = .ok (.iload_n 3, 1) := by decide +kernel
theorem dX2_at_67 : decode cX2_at 67 = .ok (.iadd, 1) := by decide +kernel
theorem dX2_at_68 : decode cX2_at 68 = .ok (.iaload, 1) := by decide +kernel
theorem dX2_at_69 : decode cX2_at 69 = .ok (.invokestatic 120, 3) := by decide +kernel
theorem dX2_at_72 : decode cX2_at 72 = .ok (.goto 8, 3) := by decide +kernel
theorem dX2_at_75 : decode cX2_at 75 = .ok (.aload_n 0, 1) := by decide +kernel
theorem dX2_at_76 : decode cX2_at 76 = .ok (.iconst 3, 1) := by decide +kernel
theorem dX2_at_77 : decode cX2_at 77 = .ok (.invokevirtual 89, 3) := by decide +kernel
theorem dX2_at_80 : decode cX2_at 80 = .ok (.ireturn, 1) := by decide +kernel
set_option maxRecDepth 20000 in
theorem ggX2_deep_X2_isThing : GoodIn wsX2_deep wsX2_isThing := goodIn_r _ [9, 10, 11, 12, 8, 13, 28, 29, 30, 31, 32, 33, 34, 35, 36, 37, 38, 39, 40, 41, 42, 43, 44] (by decide +kernel) (by decide +kernel)
set_option maxRecDepth 20000 in
theorem gX2_deep_X2_isThing : GoodIn wsX2_deep (wsV RX2 70 RX2 yX2_isThing wsX2_isThing) := goodIn_app (goodIn_of _ (by decide +kernel)) ggX2_deep_X2_isThing
set_option maxRecDepth 20000 in
theorem ggX2_deep_X2_isOf : GoodIn wsX2_deep wsX2_isOf := goodIn_ca (goodIn_r _ [17, 18, 19, 28, 29, 30, 31, 32, 33, 34, 35, 36, 37, 38, 39, 40, 41, 42, 43, 44] (by decide +kernel) (by decide +kernel)) (goodIn_sub (fun _ h => List.mem_cons_of_mem _ (List.mem_append_right _ h)) (by decide +kernel))
set_option maxRecDepth 20000 in
theorem gX2_deep_X2_isOf : GoodIn wsX2_deep (wsV RX2 95 RX2 yX2_isOf wsX2_isOf) := goodIn_app (goodIn_of _ (by decide +kernel)) ggX2_deep_X2_isOf
set_option maxRecDepth 20000 in
theorem ggX2_deep_X2_found : GoodIn wsX2_deep wsX2_found := goodIn_ca (goodIn_r _ [23, 24, 28, 29, 30, 31, 32, 33, 34, 35, 36, 37, 38, 39, 40, 41, 42, 43, 44] (by decide +kernel) (by decide +kernel)) (goodIn_sub (fun _ h => List.mem_cons_of_mem _ (List.mem_append_right _ h)) (by decide +kernel))
set_option maxRecDepth 20000 in
theorem gX2_deep_X2_found : GoodIn wsX2_deep (wsV RX2 89 RX2 yX2_found wsX2_found) := goodIn_app (goodIn_of _ (by decide +kernel)) ggX2_deep_X2_found
set_option maxRecDepth 20000 in
theorem ggX2_deep_X2_in : GoodIn wsX2_deep wsX2_in := goodIn_r _ [13] (by decide +kernel) (by decide +kernel)
set_option maxRecDepth 20000 in
theorem gX2_deep_X2_in : GoodIn wsX2_deep (va_wsS RX2 66 yX2_in wsX2_in) := goodIn_app (goodIn_of _ (by decide +kernel)) ggX2_deep_X2_in
set_option maxRecDepth 20000 in
theorem ggX2_deep_X2_told : GoodIn wsX2_deep wsX2_told := goodIn_r _ [27] (by decide +kernel) (by decide +kernel)
set_option maxRecDepth 20000 in
theorem gX2_deep_X2_told : GoodIn wsX2_deep (va_wsS RX2 120 yX2_told wsX2_told) := goodIn_app (goodIn_of _ (by decide +kernel)) ggX2_deep_X2_told
theorem dX2_deep_0 : decode cX2_deep 0 = .ok (.aload_n 0, 1) := by decide +kernel
theorem dX2_deep_1 : decode cX2_deep 1 = .ok (.iconst 0, 1) := by decide +kernel
theorem dX2_deep_2 : decode cX2_deep 2 = .ok (.putfield 59, 3) := by decide +kernel
theorem dX2_deep_5 : decode cX2_deep 5 = .ok (.aload_n 0, 1) := by decide +kernel
theorem dX2_deep_6 : decode cX2_deep 6 = .ok (.iload_n 1, 1) := by decide +kernel
theorem dX2_deep_7 : decode cX2_deep 7 = .ok (.invokevirtual 70, 3) := by decide +kernel
theorem dX2_deep_10 : decode cX2_deep 10 = .ok (.ifCond .ne 5, 3) := by decide +kernel
theorem dX2_deep_13 : decode cX2_deep 13 = .ok (.iconst (-1), 1) := by decide +kernel
theorem dX2_deep_14 : decode cX2_deep 14 = .ok (.ireturn, 1) := by decide +kernel
theorem dX2_deep_15 : decode cX2_deep 15 = .ok (.iload_n 2, 1) := by decide +kernel
theorem dX2_deep_16 : decode cX2_deep 16 = .ok (.bipush 9, 2) := by decide +kernel
theorem dX2_deep_18 : decode cX2_deep 18 = .ok (.if_icmp .eq 18, 3) := by decide +kernel
theorem dX2_deep_21 : decode cX2_deep 21 = .ok (.iload_n 2, 1) := by decide +kernel
theorem dX2_deep_22 : decode cX2_deep 22 = .ok (.bipush 15, 2) := by decide +kernel
theorem dX2_deep_24 : decode cX2_deep 24 = .ok (.if_icmp .eq 12, 3) := by decide +kernel
theorem dX2_deep_27 : decode cX2_deep 27 = .ok (.iload_n 2, 1) := by decide +kernel
theorem dX2_deep_28 : decode cX2_deep 28 = .ok (.bipush 16, 2) := by decide +kernel
theorem dX2_deep_30 : decode cX2_deep 30 = .ok (.if_icmp .eq 6, 3) := by decide +kernel
theorem dX2_deep_33 : decode cX2_deep 33 = .ok (.bipush (-2), 2) := by decide +kernel
theorem dX2_deep_35 : decode cX2_deep 35 = .ok (.ireturn, 1) := by decide +kernel
theorem dX2_deep_36 : decode cX2_deep 36 = .ok (.aload_n 0, 1) := by decide +kernel
theorem dX2_deep_37 : decode cX2_deep 37 = .ok (.iload_n 1, 1) := by decide +kernel
theorem dX2_deep_38 : decode cX2_deep 38 = .ok (.iload_n 2, 1) := by decide +kernel
theorem dX2_deep_39 : decode cX2_deep 39 = .ok (.invokevirtual 95, 3) := by decide +kernel
theorem dX2_deep_42 : decode cX2_deep 42 = .ok (.ifCond .ne 9, 3) := by decide +kernel
theorem dX2_deep_45 : decode cX2_deep 45 = .ok (.aload_n 0, 1) := by decide +kernel
theorem dX2_deep_46 : decode cX2_deep 46 = .ok (.iconst 1, 1) := by decide +kernel
theorem dX2_deep_47 : decode cX2_deep 47 = .ok (.invokevirtual 89, 3) := by decide +kernel
theorem dX2_deep_50 : decode cX2_deep 50 = .ok (.ireturn, 1) := by decide +kernel
theorem dX2_deep_51 : decode cX2_deep 51 = .ok (.iload_n 3, 1) := by decide +kernel
theorem dX2_deep_52 : decode cX2_deep 52 = .ok (.i2l, 1) := by decide +kernel
theorem dX2_deep_53 : decode cX2_deep 53 = .ok (.lconst 0, 1) := by decide +kernel
theorem dX2_deep_54 : decode cX2_deep 54 = .ok (.aload_n 0, 1) := by decide +kernel
theorem dX2_deep_55 : decode cX2_deep 55 = .ok (.getfield 16, 3) := by decide +kernel
theorem dX2_deep_58 : decode cX2_deep 58 = .ok (.iload_n 1, 1) := by decide +kernel
theorem dX2_deep_59 : decode cX2_deep 59 = .ok (.iaload, 1) := by decide +kernel
theorem dX2_deep_60 : decode cX2_deep 60 = .ok (.iconst 1, 1) := by decide +kernel
theorem dX2_deep_61 : decode cX2_deep 61 = .ok (.isub, 1) := by decide +kernel
theorem dX2_deep_62 : decode cX2_deep 62 = .ok (.i2l, 1) := by decide +kernel
theorem dX2_deep_63 : decode cX2_deep 63 = .ok (.invokestatic 66, 3) := by decide +kernel
theorem dX2_deep_66 : decode cX2_deep 66 = .ok (.ifCond .ne 9, 3) := by decide +kernel
theorem dX2_deep_69 : decode cX2_deep 69 = .ok (.aload_n 0, 1) := by decide +kernel
theorem dX2_deep_70 : decode cX2_deep 70 = .ok (.iconst 3, 1) := by decide +kernel
theorem dX2_deep_71 : decode cX2_deep 71 = .ok (.invokevirtual 89, 3) := by decide +kernel
theorem dX2_deep_74 : decode cX2_deep 74 = .ok (.ireturn, 1) := by decide +kernel
theorem dX2_deep_75 : decode cX2_deep 75 = .ok (.aload_n 0, 1) := by decide +kernel
theorem dX2_deep_76 : decode cX2_deep 76 = .ok (.getfield 23, 3) := by decide +kernel
theorem dX2_deep_79 : decode cX2_deep 79 = .ok (.bipush 10, 2) := by decide +kernel
theorem dX2_deep_81 : decode cX2_deep 81 = .ok (.iload_n 1, 1) := by decide +kernel
theorem dX2_deep_82 : decode cX2_deep 82 = .ok (.imul, 1) := by decide +kernel
theorem dX2_deep_83 : decode cX2_deep 83 = .ok (.iload_n 3, 1) := by decide +kernel
theorem dX2_deep_84 : decode cX2_deep 84 = .ok (.iadd, 1) := by decide +kernel
theorem dX2_deep_85 : decode cX2_deep 85 = .ok (.iaload, 1) := by decide +kernel
theorem dX2_deep_86 : decode cX2_deep 86 = .ok (.istore 5, 2) := by decide +kernel
theorem dX2_deep_88 : decode cX2_deep 88 = .ok (.iload 5, 2) := by decide +kernel
theorem dX2_deep_90 : decode cX2_deep 90 = .ok (.ifCond .ge 9, 3) := by decide +kernel
theorem dX2_deep_93 : decode cX2_deep 93 = .ok (.aload_n 0, 1) := by decide +kernel
theorem dX2_deep_94 : decode cX2_deep 94 = .ok (.iconst 2, 1) := by decide +kernel
theorem dX2_deep_95 : decode cX2_deep 95 = .ok (.invokevirtual 89, 3) := by decide +kernel
theorem dX2_deep_98 : decode cX2_deep 98 = .ok (.ireturn, 1) := by decide +kernel
theorem dX2_deep_99 : decode cX2_deep 99 = .ok (.iload 4, 2) := by decide +kernel
theorem dX2_deep_101 : decode cX2_deep 101 = .ok (.i2l, 1) := by decide +kernel
theorem dX2_deep_102 : decode cX2_deep 102 = .ok (.lconst 0, 1) := by decide +kernel
theorem dX2_deep_103 : decode cX2_deep 103 = .ok (.aload_n 0, 1) := by decide +kernel
theorem dX2_deep_104 : decode cX2_deep 104 = .ok (.getfield 16, 3) := by decide +kernel
theorem dX2_deep_107 : decode cX2_deep 107 = .ok (.iload 5, 2) := by decide +kernel
theorem dX2_deep_109 : decode cX2_deep 109 = .ok (.iaload, 1) := by decide +kernel
theorem dX2_deep_110 : decode cX2_deep 110 = .ok (.iconst 1, 1) := by decide +kernel
theorem dX2_deep_111 : decode cX2_deep 111 = .ok (.isub, 1) := by decide +kernel
theorem dX2_deep_112 : decode cX2_deep 112 = .ok (.i2l, 1) := by decide +kernel
theorem dX2_deep_113 : decode cX2_deep 113 = .ok (.invokestatic 66, 3) := by decide +kernel
theorem dX2_deep_116 : decode cX2_deep 116 = .ok (.ifCond .ne 9, 3) := by decide +kernel
theorem dX2_deep_119 : decode cX2_deep 119 = .ok (.aload_n 0, 1) := by decide +kernel
theorem dX2_deep_120 : decode cX2_deep 120 = .ok (.iconst 3, 1) := by decide +kernel
theorem dX2_deep_121 : decode cX2_deep 121 = .ok (.invokevirtual 89, 3) := by decide +kernel
theorem dX2_deep_124 : decode cX2_deep 124 = .ok (.ireturn, 1) := by decide +kernel
theorem dX2_deep_125 : decode cX2_deep 125 = .ok (.iload_n 2, 1) := by decide +kernel
theorem dX2_deep_126 : decode cX2_deep 126 = .ok (.bipush 9, 2) := by decide +kernel
theorem dX2_deep_128 : decode cX2_deep 128 = .ok (.if_icmp .ne 20, 3) := by decide +kernel
theorem dX2_deep_131 : decode cX2_deep 131 = .ok (.aload_n 0, 1) := by decide +kernel
theorem dX2_deep_132 : decode cX2_deep 132 = .ok (.getfield 19, 3) := by decide +kernel
theorem dX2_deep_135 : decode cX2_deep 135 = .ok (.bipush 10, 2) := by decide +kernel
theorem dX2_deep_137 : decode cX2_deep 137 = .ok (.iload 5, 2) := by decide +kernel
theorem dX2_deep_139 : decode cX2_deep 139 = .ok (.imul, 1) := by decide +kernel
theorem dX2_deep_140 : decode cX2_deep 140 = .ok (.iload 4, 2) := by decide +kernel
theorem dX2_deep_142 : decode cX2_deep 142 = .ok (.iadd, 1) := by decide +kernel
theorem dX2_deep_143 : decode cX2_deep 143 = .ok (.laload, 1) := by decide +kernel
theorem dX2_deep_144 : decode cX2_deep 144 = .ok (.l2i, 1) := by decide +kernel
theorem dX2_deep_145 : decode cX2_deep 145 = .ok (.goto 19, 3) := by decide +kernel
theorem dX2_deep_148 : decode cX2_deep 148 = .ok (.aload_n 0, 1) := by decide +kernel
theorem dX2_deep_149 : decode cX2_deep 149 = .ok (.getfield 23, 3) := by decide +kernel
theorem dX2_deep_152 : decode cX2_deep 152 = .ok (.bipush 10, 2) := by decide +kernel
theorem dX2_deep_154 : decode cX2_deep 154 = .ok (.iload 5, 2) := by decide +kernel
theorem dX2_deep_156 : decode cX2_deep 156 = .ok (.imul, 1) := by decide +kernel
theorem dX2_deep_157 : decode cX2_deep 157 = .ok (.iload 4, 2) := by decide +kernel
theorem dX2_deep_159 : decode cX2_deep 159 = .ok (.iadd, 1) := by decide +kernel
theorem dX2_deep_160 : decode cX2_deep 160 = .ok (.iaload, 1) := by decide +kernel
theorem dX2_deep_161 : decode cX2_deep 161 = .ok (.invokestatic 120, 3) := by decide +kernel
theorem dX2_deep_164 : decode cX2_deep 164 = .ok (.ireturn, 1) := by decide +kernel
theorem dX2_heldBy_0 : decode cX2_heldBy 0 = .ok (.aload_n 0, 1) := by decide +kernel
theorem dX2_heldBy_1 : decode cX2_heldBy 1 = .ok (.getfield 23, 3) := by decide +kernel
theorem dX2_heldBy_4 : decode cX2_heldBy 4 = .ok (.bipush 10, 2) := by decide +kernel
theorem dX2_heldBy_6 : decode cX2_heldBy 6 = .ok (.iload_n 1, 1) := by decide +kernel
theorem dX2_heldBy_7 : decode cX2_heldBy 7 = .ok (.imul, 1) := by decide +kernel
theorem dX2_heldBy_8 : decode cX2_heldBy 8 = .ok (.iaload, 1) := by decide +kernel
theorem dX2_heldBy_9 : decode cX2_heldBy 9 = .ok (.ireturn, 1) := by decide +kernel
set_option maxRecDepth 20000 in
theorem ggX2_isWithin_X2_heldBy : GoodIn wsX2_isWithin wsX2_heldBy := goodIn_ca (goodIn_r _ [6, 7, 8, 9, 10, 11, 12, 13, 14, 15, 16, 17, 18, 19, 20, 21, 22, 23, 24] (by decide +kernel) (by decide +kernel)) (goodIn_sub (fun _ h => List.mem_cons_of_mem _ (List.mem_append_right _ h)) (by decide +kernel))
set_option maxRecDepth 20000 in
theorem gX2_isWithin_X2_heldBy : GoodIn wsX2_isWithin (wsV RX2 123 RX2 yX2_heldBy wsX2_heldBy) := goodIn_app (goodIn_of _ (by decide +kernel)) ggX2_isWithin_X2_heldBy
theorem dX2_isWithin_0 : decode cX2_isWithin 0 = .ok (.iload_n 2, 1) := by decide +kernel
theorem dX2_isWithin_1 : decode cX2_isWithin 1 = .ok (.istore_n 3, 1) := by decide +kernel
theorem dX2_isWithin_2 : decode cX2_isWithin 2 = .ok (.iload_n 3, 1) := by decide +kernel
theorem dX2_isWithin_3 : decode cX2_isWithin 3 = .ok (.ifCond .lt 27, 3) := by decide +kernel
theorem dX2_isWithin_6 : decode cX2_isWithin 6 = .ok (.aload_n 0, 1) := by decide +kernel
theorem dX2_isWithin_7 : decode cX2_isWithin 7 = .ok (.getfield 7, 3) := by decide +kernel
theorem dX2_isWithin_10 : decode cX2_isWithin 10 = .ok (.iload_n 3, 1) := by decide +kernel
theorem dX2_isWithin_11 : decode cX2_isWithin 11 = .ok (.iaload, 1) := by decide +kernel
theorem dX2_isWithin_12 : decode cX2_isWithin 12 = .ok (.bipush 18, 2) := by decide +kernel
theorem dX2_isWithin_14 : decode cX2_isWithin 14 = .ok (.if_icmp .ne 16, 3) := by decide +kernel
theorem dX2_isWithin_17 : decode cX2_isWithin 17 = .ok (.aload_n 0, 1) := by decide +kernel
theorem dX2_isWithin_18 : decode cX2_isWithin 18 = .ok (.iload_n 3, 1) := by decide +kernel
theorem dX2_isWithin_19 : decode cX2_isWithin 19 = .ok (.invokevirtual 123, 3) := by decide +kernel
theorem dX2_isWithin_22 : decode cX2_isWithin 22 = .ok (.istore_n 3, 1) := by decide +kernel
theorem dX2_isWithin_23 : decode cX2_isWithin 23 = .ok (.iload_n 3, 1) := by decide +kernel
theorem dX2_isWithin_24 : decode cX2_isWithin 24 = .ok (.iload_n 1, 1) := by decide +kernel
theorem dX2_isWithin_25 : decode cX2_isWithin 25 = .ok (.if_icmp .ne (-23), 3) := by decide +kernel
theorem dX2_isWithin_28 : decode cX2_isWithin 28 = .ok (.iconst 1, 1) := by decide +kernel
theorem dX2_isWithin_29 : decode cX2_isWithin 29 = .ok (.ireturn, 1) := by decide +kernel
theorem dX2_isWithin_30 : decode cX2_isWithin 30 = .ok (.iconst 0, 1) := by decide +kernel
theorem dX2_isWithin_31 : decode cX2_isWithin 31 = .ok (.ireturn, 1) := by decide +kernel
set_option maxRecDepth 20000 in
theorem ggX2_fill_X2_isCase : GoodIn wsX2_fill wsX2_isCase := goodIn_ca (goodIn_r _ [7, 8, 9, 10, 11, 6, 12, 13, 14, 15, 16, 28, 29, 30, 31, 32, 33, 34, 35, 36, 37, 38, 39, 40, 41, 42, 43, 44] (by decide +kernel) (by decide +kernel)) (goodIn_sub (fun _ h => List.mem_cons_of_mem _ (List.mem_append_right _ h)) (by decide +kernel))
set_option maxRecDepth 20000 in
theorem gX2_fill_X2_isCase : GoodIn wsX2_fill (wsV RX2 126 RX2 yX2_isCase wsX2_isCase) := goodIn_app (goodIn_of _ (by decide +kernel)) ggX2_fill_X2_isCase
set_option maxRecDepth 20000 in
theorem ggX2_fill_X2_isThing : GoodIn wsX2_fill wsX2_isThing := goodIn_r _ [12, 13, 14, 15, 6, 16, 28, 29, 30, 31, 32, 33, 34, 35, 36, 37, 38, 39, 40, 41, 42, 43, 44] (by decide +kernel) (by decide +kernel)
set_option maxRecDepth 20000 in
theorem gX2_fill_X2_isThing : GoodIn wsX2_fill (wsV RX2 70 RX2 yX2_isThing wsX2_isThing) := goodIn_app (goodIn_of _ (by decide +kernel)) ggX2_fill_X2_isThing
set_option maxRecDepth 20000 in
theorem ggX2_fill_X2_isWithin : GoodIn wsX2_fill wsX2_isWithin := goodIn_ca (goodIn_r _ [20, 8, 21, 22, 23, 6, 24, 2, 28, 29, 30, 31, 32, 33, 34, 35, 36, 37, 38, 39, 40, 41, 42, 43, 44] (by decide +kernel) (by decide +kernel)) (goodIn_sub (fun _ h => List.mem_cons_of_mem _ (List.mem_append_right _ h)) (by decide +kernel))
set_option maxRecDepth 20000 in
theorem gX2_fill_X2_isWithin : GoodIn wsX2_fill (wsV RX2 129 RX2 yX2_isWithin wsX2_isWithin) := goodIn_app (goodIn_of _ (by decide +kernel)) ggX2_fill_X2_isWithin
set_option maxRecDepth 20000 in
theorem ggX2_fill_X2_heldBy : GoodIn wsX2_fill wsX2_heldBy := goodIn_ca (goodIn_r _ [24, 2, 28, 29, 30, 31, 32, 33, 34, 35, 36, 37, 38, 39, 40, 41, 42, 43, 44] (by decide +kernel) (by decide +kernel)) (goodIn_sub (fun _ h => List.mem_cons_of_mem _ (List.mem_append_right _ h)) (by decide +kernel))
set_option maxRecDepth 20000 in
theorem gX2_fill_X2_heldBy : GoodIn wsX2_fill (wsV RX2 123 RX2 yX2_heldBy wsX2_heldBy) := goodIn_app (goodIn_of _ (by decide +kernel)) ggX2_fill_X2_heldBy
set_option maxRecDepth 20000 in
theorem ggX2_fill_X2_told : GoodIn wsX2_fill wsX2_told := goodIn_r _ [27] (by decide +kernel) (by decide +kernel)
set_option maxRecDepth 20000 in
theorem gX2_fill_X2_told : GoodIn wsX2_fill (va_wsS RX2 120 yX2_told wsX2_told) := goodIn_app (goodIn_of _ (by decide +kernel)) ggX2_fill_X2_told
theorem dX2_fill_0 : decode cX2_fill 0 = .ok (.aload_n 0, 1) := by decide +kernel
theorem dX2_fill_1 : decode cX2_fill 1 = .ok (.iconst 0, 1) := by decide +kernel
theorem dX2_fill_2 : decode cX2_fill 2 = .ok (.putfield 59, 3) := by decide +kernel
theorem dX2_fill_5 : decode cX2_fill 5 = .ok (.aload_n 0, 1) := by decide +kernel
theorem dX2_fill_6 : decode cX2_fill 6 = .ok (.iload_n 1, 1) := by decide +kernel
theorem dX2_fill_7 : decode cX2_fill 7 = .ok (.invokevirtual 126, 3) := by decide +kernel
theorem dX2_fill_10 : decode cX2_fill 10 = .ok (.ifCond .eq 17, 3) := by decide +kernel
theorem dX2_fill_13 : decode cX2_fill 13 = .ok (.iload_n 2, 1) := by decide +kernel
theorem dX2_fill_14 : decode cX2_fill 14 = .ok (.bipush (-5), 2) := by decide +kernel
theorem dX2_fill_16 : decode cX2_fill 16 = .ok (.if_icmp .eq 13, 3) := by decide +kernel
theorem dX2_fill_19 : decode cX2_fill 19 = .ok (.aload_n 0, 1) := by decide +kernel
theorem dX2_fill_20 : decode cX2_fill 20 = .ok (.iload_n 2, 1) := by decide +kernel
theorem dX2_fill_21 : decode cX2_fill 21 = .ok (.invokevirtual 70, 3) := by decide +kernel
theorem dX2_fill_24 : decode cX2_fill 24 = .ok (.ifCond .ne 5, 3) := by decide +kernel
theorem dX2_fill_27 : decode cX2_fill 27 = .ok (.iconst (-1), 1) := by decide +kernel
theorem dX2_fill_28 : decode cX2_fill 28 = .ok (.ireturn, 1) := by decide +kernel
theorem dX2_fill_29 : decode cX2_fill 29 = .ok (.iload_n 2, 1) := by decide +kernel
theorem dX2_fill_30 : decode cX2_fill 30 = .ok (.iload_n 1, 1) := by decide +kernel
theorem dX2_fill_31 : decode cX2_fill 31 = .ok (.if_icmp .eq 18, 3) := by decide +kernel
theorem dX2_fill_34 : decode cX2_fill 34 = .ok (.iload_n 2, 1) := by decide +kernel
theorem dX2_fill_35 : decode cX2_fill 35 = .ok (.bipush (-5), 2) := by decide +kernel
theorem dX2_fill_37 : decode cX2_fill 37 = .ok (.if_icmp .eq 15, 3) := by decide +kernel
theorem dX2_fill_40 : decode cX2_fill 40 = .ok (.aload_n 0, 1) := by decide +kernel
theorem dX2_fill_41 : decode cX2_fill 41 = .ok (.iload_n 1, 1) := by decide +kernel
theorem dX2_fill_42 : decode cX2_fill 42 = .ok (.iload_n 2, 1) := by decide +kernel
theorem dX2_fill_43 : decode cX2_fill 43 = .ok (.invokevirtual 129, 3) := by decide +kernel
theorem dX2_fill_46 : decode cX2_fill 46 = .ok (.ifCond .eq 6, 3) := by decide +kernel
theorem dX2_fill_49 : decode cX2_fill 49 = .ok (.bipush (-3), 2) := by decide +kernel
theorem dX2_fill_51 : decode cX2_fill 51 = .ok (.ireturn, 1) := by decide +kernel
theorem dX2_fill_52 : decode cX2_fill 52 = .ok (.aload_n 0, 1) := by decide +kernel
theorem dX2_fill_53 : decode cX2_fill 53 = .ok (.iload_n 1, 1) := by decide +kernel
theorem dX2_fill_54 : decode cX2_fill 54 = .ok (.invokevirtual 123, 3) := by decide +kernel
theorem dX2_fill_57 : decode cX2_fill 57 = .ok (.istore_n 3, 1) := by decide +kernel
theorem dX2_fill_58 : decode cX2_fill 58 = .ok (.aload_n 0, 1) := by decide +kernel
theorem dX2_fill_59 : decode cX2_fill 59 = .ok (.getfield 23, 3) := by decide +kernel
theorem dX2_fill_62 : decode cX2_fill 62 = .ok (.bipush 10, 2) := by decide +kernel
theorem dX2_fill_64 : decode cX2_fill 64 = .ok (.iload_n 1, 1) := by decide +kernel
theorem dX2_fill_65 : decode cX2_fill 65 = .ok (.imul, 1) := by decide +kernel
theorem dX2_fill_66 : decode cX2_fill 66 = .ok (.iload_n 2, 1) := by decide +kernel
theorem dX2_fill_67 : decode cX2_fill 67 = .ok (.bipush (-5), 2) := by decide +kernel
theorem dX2_fill_69 : decode cX2_fill 69 = .ok (.if_icmp .ne 7, 3) := by decide +kernel
theorem dX2_fill_72 : decode cX2_fill 72 = .ok (.iconst (-1), 1) := by decide +kernel
theorem dX2_fill_73 : decode cX2_fill 73 = .ok (.goto 4, 3) := by decide +kernel
theorem dX2_fill_76 : decode cX2_fill 76 = .ok (.iload_n 2, 1) := by decide +kernel
theorem dX2_fill_77 : decode cX2_fill 77 = .ok (.iastore, 1) := by decide +kernel
theorem dX2_fill_78 : decode cX2_fill 78 = .ok (.iload_n 3, 1) := by decide +kernel
theorem dX2_fill_79 : decode cX2_fill 79 = .ok (.invokestatic 120, 3) := by decide +kernel
theorem dX2_fill_82 : decode cX2_fill 82 = .ok (.ireturn, 1) := by decide +kernel
set_option maxRecDepth 20000 in
theorem ggX2_held_X2_isCase : GoodIn wsX2_held wsX2_isCase := goodIn_ca (goodIn_r _ [6, 7, 8, 9, 10, 5, 11, 12, 13, 14, 15, 24, 25, 26, 27, 28, 29, 30, 31, 32, 33, 34, 35, 36, 37, 38, 39, 40] (by decide +kernel) (by decide +kernel)) (goodIn_sub (fun _ h => List.mem_cons_of_mem _ (List.mem_append_right _ h)) (by decide +kernel))
set_option maxRecDepth 20000 in
theorem gX2_held_X2_isCase : GoodIn wsX2_held (wsV RX2 126 RX2 yX2_isCase wsX2_isCase) := goodIn_app (goodIn_of _ (by decide +kernel)) ggX2_held_X2_isCase
set_option maxRecDepth 20000 in
theorem ggX2_held_X2_heldBy : GoodIn wsX2_held wsX2_heldBy := goodIn_ca (goodIn_r _ [19, 20, 24, 25, 26, 27, 28, 29, 30, 31, 32, 33, 34, 35, 36, 37, 38, 39, 40] (by decide +kernel) (by decide +kernel)) (goodIn_sub (fun _ h => List.mem_cons_of_mem _ (List.mem_append_right _ h)) (by decide +kernel))
set_option maxRecDepth 20000 in
theorem gX2_held_X2_heldBy : GoodIn wsX2_held (wsV RX2 123 RX2 yX2_heldBy wsX2_heldBy) := goodIn_app (goodIn_of _ (by decide +kernel)) ggX2_held_X2_heldBy
set_option maxRecDepth 20000 in
theorem ggX2_held_X2_told : GoodIn wsX2_held wsX2_told := goodIn_r _ [23] (by decide +kernel) (by decide +kernel)
set_option maxRecDepth 20000 in
theorem gX2_held_X2_told : GoodIn wsX2_held (va_wsS RX2 120 yX2_told wsX2_told) := goodIn_app (goodIn_of _ (by decide +kernel)) ggX2_held_X2_told
theorem dX2_held_0 : decode cX2_held 0 = .ok (.aload_n 0, 1) := by decide +kernel
theorem dX2_held_1 : decode cX2_held 1 = .ok (.iconst 0, 1) := by decide +kernel
theorem dX2_held_2 : decode cX2_held 2 = .ok (.putfield 59, 3) := by decide +kernel
theorem dX2_held_5 : decode cX2_held 5 = .ok (.aload_n 0, 1) := by decide +kernel
theorem dX2_held_6 : decode cX2_held 6 = .ok (.iload_n 1, 1) := by decide +kernel
theorem dX2_held_7 : decode cX2_held 7 = .ok (.invokevirtual 126, 3) := by decide +kernel
theorem dX2_held_10 : decode cX2_held 10 = .ok (.ifCond .eq 14, 3) := by decide +kernel
theorem dX2_held_13 : decode cX2_held 13 = .ok (.aload_n 0, 1) := by decide +kernel
theorem dX2_held_14 : decode cX2_held 14 = .ok (.iload_n 1, 1) := by decide +kernel
theorem dX2_held_15 : decode cX2_held 15 = .ok (.invokevirtual 123, 3) := by decide +kernel
theorem dX2_held_18 : decode cX2_held 18 = .ok (.invokestatic 120, 3) := by decide +kernel
theorem dX2_held_21 : decode cX2_held 21 = .ok (.goto 4, 3) := by decide +kernel
theorem dX2_held_24 : decode cX2_held 24 = .ok (.iconst (-1), 1) := by decide +kernel
theorem dX2_held_25 : decode cX2_held 25 = .ok (.ireturn, 1) := by decide +kernel
set_option maxRecDepth 20000 in
theorem ggX2_deepest_X2_heldBy : GoodIn wsX2_deepest wsX2_heldBy := goodIn_ca (goodIn_r _ [6, 7, 8, 9, 10, 11, 12, 13, 14, 15, 16, 17, 18, 19, 20, 21, 22, 23, 24] (by decide +kernel) (by decide +kernel)) (goodIn_sub (fun _ h => List.mem_cons_of_mem _ (List.mem_append_right _ h)) (by decide +kernel))
set_option maxRecDepth 20000 in
theorem gX2_deepest_X2_heldBy : GoodIn wsX2_deepest (wsV RX2 123 RX2 yX2_heldBy wsX2_heldBy) := goodIn_app (goodIn_of _ (by decide +kernel)) ggX2_deepest_X2_heldBy
theorem dX2_deepest_0 : decode cX2_deepest 0 = .ok (.aload_n 0, 1) := by decide +kernel
theorem dX2_deepest_1 : decode cX2_deepest 1 = .ok (.iload_n 1, 1) := by decide +kernel
theorem dX2_deepest_2 : decode cX2_deepest 2 = .ok (.invokevirtual 123, 3) := by decide +kernel
theorem dX2_deepest_5 : decode cX2_deepest 5 = .ok (.istore_n 2, 1) := by decide +kernel
theorem dX2_deepest_6 : decode cX2_deepest 6 = .ok (.iload_n 2, 1) := by decide +kernel
theorem dX2_deepest_7 : decode cX2_deepest 7 = .ok (.ifCond .lt 23, 3) := by decide +kernel
theorem dX2_deepest_10 : decode cX2_deepest 10 = .ok (.aload_n 0, 1) := by decide +kernel
theorem dX2_deepest_11 : decode cX2_deepest 11 = .ok (.getfield 7, 3) := by decide +kernel
theorem dX2_deepest_14 : decode cX2_deepest 14 = .ok (.iload_n 2, 1) := by decide +kernel
theorem dX2_deepest_15 : decode cX2_deepest 15 = .ok (.iaload, 1) := by decide +kernel
theorem dX2_deepest_16 : decode cX2_deepest 16 = .ok (.bipush 18, 2) := by decide +kernel
theorem dX2_deepest_18 : decode cX2_deepest 18 = .ok (.if_icmp .ne 12, 3) := by decide +kernel
theorem dX2_deepest_21 : decode cX2_deepest 21 = .ok (.aload_n 0, 1) := by decide +kernel
theorem dX2_deepest_22 : decode cX2_deepest 22 = .ok (.iload_n 2, 1) := by decide +kernel
theorem dX2_deepest_23 : decode cX2_deepest 23 = .ok (.invokevirtual 123, 3) := by decide +kernel
theorem dX2_deepest_26 : decode cX2_deepest 26 = .ok (.istore_n 2, 1) := by decide +kernel
theorem dX2_deepest_27 : decode cX2_deepest 27 = .ok (.goto (-21), 3) := by decide +kernel
theorem dX2_deepest_30 : decode cX2_deepest 30 = .ok (.iload_n 2, 1) := by decide +kernel
theorem dX2_deepest_31 : decode cX2_deepest 31 = .ok (.ireturn, 1) := by decide +kernel
set_option maxRecDepth 20000 in
theorem ggX2_innermost_X2_isCase : GoodIn wsX2_innermost wsX2_isCase := goodIn_ca (goodIn_r _ [7, 8, 9, 10, 11, 6, 12, 13, 14, 15, 16, 31, 32, 33, 34, 35, 36, 37, 38, 39, 40, 41, 42, 43, 44, 45, 46, 47] (by decide +kernel) (by decide +kernel)) (goodIn_sub (fun _ h => List.mem_cons_of_mem _ (List.mem_append_right _ h)) (by decide +kernel))
set_option maxRecDepth 20000 in
theorem gX2_innermost_X2_isCase : GoodIn wsX2_innermost (wsV RX2 126 RX2 yX2_isCase wsX2_isCase) := goodIn_app (goodIn_of _ (by decide +kernel)) ggX2_innermost_X2_isCase
set_option maxRecDepth 20000 in
theorem ggX2_innermost_X2_in : GoodIn wsX2_innermost wsX2_in := goodIn_r _ [16] (by decide +kernel) (by decide +kernel)
set_option maxRecDepth 20000 in
theorem gX2_innermost_X2_in : GoodIn wsX2_innermost (va_wsS RX2 66 yX2_in wsX2_in) := goodIn_app (goodIn_of _ (by decide +kernel)) ggX2_innermost_X2_in
set_option maxRecDepth 20000 in
theorem ggX2_innermost_X2_deepest : GoodIn wsX2_innermost wsX2_deepest := goodIn_ca (goodIn_r _ [20, 8, 21, 22, 23, 6, 24, 25, 31, 32, 33, 34, 35, 36, 37, 38, 39, 40, 41, 42, 43, 44, 45, 46, 47] (by decide +kernel) (by decide +kernel)) (goodIn_sub (fun _ h => List.mem_cons_of_mem _ (List.mem_append_right _ h)) (by decide +kernel))
set_option maxRecDepth 20000 in
theorem gX2_innermost_X2_deepest : GoodIn wsX2_innermost (wsV RX2 132 RX2 yX2_deepest wsX2_deepest) := goodIn_app (goodIn_of _ (by decide +kernel)) ggX2_innermost_X2_deepest
set_option maxRecDepth 20000 in
theorem ggX2_innermost_X2_isOf : GoodIn wsX2_innermost wsX2_isOf := goodIn_ca (goodIn_r _ [29, 30, 8, 31, 32, 33, 34, 35, 36, 37, 38, 39, 40, 41, 42, 43, 44, 45, 46, 47] (by decide +kernel) (by decide +kernel)) (goodIn_sub (fun _ h => List.mem_cons_of_mem _ (List.mem_append_right _ h)) (by decide +kernel))
set_option maxRecDepth 20000 in
theorem gX2_innermost_X2_isOf : GoodIn wsX2_innermost (wsV RX2 95 RX2 yX2_isOf wsX2_isOf) := goodIn_app (goodIn_of _ (by decide +kernel)) ggX2_innermost_X2_isOf
theorem dX2_innermost_0 : decode cX2_innermost 0 = .ok (.aload_n 0, 1) := by decide +kernel
theorem dX2_innermost_1 : decode cX2_innermost 1 = .ok (.iconst 0, 1) := by decide +kernel
theorem dX2_innermost_2 : decode cX2_innermost 2 = .ok (.putfield 59, 3) := by decide +kernel
theorem dX2_innermost_5 : decode cX2_innermost 5 = .ok (.aload_n 0, 1) := by decide +kernel
theorem dX2_innermost_6 : decode cX2_innermost 6 = .ok (.iload_n 1, 1) := by decide +kernel
theorem dX2_innermost_7 : decode cX2_innermost 7 = .ok (.invokevirtual 126, 3) := by decide +kernel
theorem dX2_innermost_10 : decode cX2_innermost 10 = .ok (.ifCond .ne 5, 3) := by decide +kernel
theorem dX2_innermost_13 : decode cX2_innermost 13 = .ok (.iconst (-1), 1) := by decide +kernel
theorem dX2_innermost_14 : decode cX2_innermost 14 = .ok (.ireturn, 1) := by decide +kernel
theorem dX2_innermost_15 : decode cX2_innermost 15 = .ok (.iload_n 2, 1) := by decide +kernel
theorem dX2_innermost_16 : decode cX2_innermost 16 = .ok (.i2l, 1) := by decide +kernel
theorem dX2_innermost_17 : decode cX2_innermost 17 = .ok (.lconst 0, 1) := by decide +kernel
theorem dX2_innermost_18 : decode cX2_innermost 18 = .ok (.ldc2_w 93, 3) := by decide +kernel
theorem dX2_innermost_21 : decode cX2_innermost 21 = .ok (.invokestatic 66, 3) := by decide +kernel
theorem dX2_innermost_24 : decode cX2_innermost 24 = .ok (.ifCond .ne 6, 3) := by decide +kernel
theorem dX2_innermost_27 : decode cX2_innermost 27 = .ok (.bipush (-2), 2) := by decide +kernel
theorem dX2_innermost_29 : decode cX2_innermost 29 = .ok (.ireturn, 1) := by decide +kernel
theorem dX2_innermost_30 : decode cX2_innermost 30 = .ok (.aload_n 0, 1) := by decide +kernel
theorem dX2_innermost_31 : decode cX2_innermost 31 = .ok (.iload_n 1, 1) := by decide +kernel
theorem dX2_innermost_32 : decode cX2_innermost 32 = .ok (.invokevirtual 132, 3) := by decide +kernel
theorem dX2_innermost_35 : decode cX2_innermost 35 = .ok (.istore_n 3, 1) := by decide +kernel
theorem dX2_innermost_36 : decode cX2_innermost 36 = .ok (.iload_n 3, 1) := by decide +kernel
theorem dX2_innermost_37 : decode cX2_innermost 37 = .ok (.ifCond .lt 16, 3) := by decide +kernel
theorem dX2_innermost_40 : decode cX2_innermost 40 = .ok (.aload_n 0, 1) := by decide +kernel
theorem dX2_innermost_41 : decode cX2_innermost 41 = .ok (.iload_n 3, 1) := by decide +kernel
theorem dX2_innermost_42 : decode cX2_innermost 42 = .ok (.iload_n 2, 1) := by decide +kernel
theorem dX2_innermost_43 : decode cX2_innermost 43 = .ok (.invokevirtual 95, 3) := by decide +kernel
theorem dX2_innermost_46 : decode cX2_innermost 46 = .ok (.ifCond .eq 7, 3) := by decide +kernel
theorem dX2_innermost_49 : decode cX2_innermost 49 = .ok (.iconst 1, 1) := by decide +kernel
theorem dX2_innermost_50 : decode cX2_innermost 50 = .ok (.goto 4, 3) := by decide +kernel
theorem dX2_innermost_53 : decode cX2_innermost 53 = .ok (.iconst 0, 1) := by decide +kernel
theorem dX2_innermost_54 : decode cX2_innermost 54 = .ok (.ireturn, 1) := by decide +kernel
set_option maxRecDepth 20000 in
theorem ggX2_depth_X2_isCase : GoodIn wsX2_depth wsX2_isCase := goodIn_ca (goodIn_r _ [7, 2, 8, 9, 10, 6, 11, 12, 13, 14, 15, 21, 22, 23, 24, 25, 26, 27, 28, 29, 30, 31, 32, 33, 34, 35, 36, 37] (by decide +kernel) (by decide +kernel)) (goodIn_sub (fun _ h => List.mem_cons_of_mem _ (List.mem_append_right _ h)) (by decide +kernel))
set_option maxRecDepth 20000 in
theorem gX2_depth_X2_isCase : GoodIn wsX2_depth (wsV RX2 126 RX2 yX2_isCase wsX2_isCase) := goodIn_app (goodIn_of _ (by decide +kernel)) ggX2_depth_X2_isCase
set_option maxRecDepth 20000 in
theorem ggX2_depth_X2_heldBy : GoodIn wsX2_depth wsX2_heldBy := goodIn_ca (goodIn_r _ [19, 20, 21, 22, 23, 24, 25, 26, 27, 28, 29, 30, 31, 32, 33, 34, 35, 36, 37] (by decide +kernel) (by decide +kernel)) (goodIn_sub (fun _ h => List.mem_cons_of_mem _ (List.mem_append_right _ h)) (by decide +kernel))
set_option maxRecDepth 20000 in
theorem gX2_depth_X2_heldBy : GoodIn wsX2_depth (wsV RX2 123 RX2 yX2_heldBy wsX2_heldBy) := goodIn_app (goodIn_of _ (by decide +kernel)) ggX2_depth_X2_heldBy
theorem dX2_depth_0 : decode cX2_depth 0 = .ok (.aload_n 0, 1) := by decide +kernel
theorem dX2_depth_1 : decode cX2_depth 1 = .ok (.iconst 0, 1) := by decide +kernel
theorem dX2_depth_2 : decode cX2_depth 2 = .ok (.putfield 59, 3) := by decide +kernel
theorem dX2_depth_5 : decode cX2_depth 5 = .ok (.aload_n 0, 1) := by decide +kernel
theorem dX2_depth_6 : decode cX2_depth 6 = .ok (.iload_n 1, 1) := by decide +kernel
theorem dX2_depth_7 : decode cX2_depth 7 = .ok (.invokevirtual 126, 3) := by decide +kernel
theorem dX2_depth_10 : decode cX2_depth 10 = .ok (.ifCond .ne 5, 3) := by decide +kernel
theorem dX2_depth_13 : decode cX2_depth 13 = .ok (.iconst (-1), 1) := by decide +kernel
theorem dX2_depth_14 : decode cX2_depth 14 = .ok (.ireturn, 1) := by decide +kernel
theorem dX2_depth_15 : decode cX2_depth 15 = .ok (.iconst 1, 1) := by decide +kernel
theorem dX2_depth_16 : decode cX2_depth 16 = .ok (.istore_n 2, 1) := by decide +kernel
theorem dX2_depth_17 : decode cX2_depth 17 = .ok (.aload_n 0, 1) := by decide +kernel
theorem dX2_depth_18 : decode cX2_depth 18 = .ok (.iload_n 1, 1) := by decide +kernel
theorem dX2_depth_19 : decode cX2_depth 19 = .ok (.invokevirtual 123, 3) := by decide +kernel
theorem dX2_depth_22 : decode cX2_depth 22 = .ok (.istore_n 3, 1) := by decide +kernel
theorem dX2_depth_23 : decode cX2_depth 23 = .ok (.iload_n 3, 1) := by decide +kernel
theorem dX2_depth_24 : decode cX2_depth 24 = .ok (.ifCond .lt 26, 3) := by decide +kernel
theorem dX2_depth_27 : decode cX2_depth 27 = .ok (.aload_n 0, 1) := by decide +kernel
theorem dX2_depth_28 : decode cX2_depth 28 = .ok (.getfield 7, 3) := by decide +kernel
theorem dX2_depth_31 : decode cX2_depth 31 = .ok (.iload_n 3, 1) := by decide +kernel
theorem dX2_depth_32 : decode cX2_depth 32 = .ok (.iaload, 1) := by decide +kernel
theorem dX2_depth_33 : decode cX2_depth 33 = .ok (.bipush 18, 2) := by decide +kernel
theorem dX2_depth_35 : decode cX2_depth 35 = .ok (.if_icmp .ne 15, 3) := by decide +kernel
theorem dX2_depth_38 : decode cX2_depth 38 = .ok (.iinc 2 1, 3) := by decide +kernel
theorem dX2_depth_41 : decode cX2_depth 41 = .ok (.aload_n 0, 1) := by decide +kernel
theorem dX2_depth_42 : decode cX2_depth 42 = .ok (.iload_n 3, 1) := by decide +kernel
theorem dX2_depth_43 : decode cX2_depth 43 = .ok (.invokevirtual 123, 3) := by decide +kernel
theorem dX2_depth_46 : decode cX2_depth 46 = .ok (.istore_n 3, 1) := by decide +kernel
theorem dX2_depth_47 : decode cX2_depth 47 = .ok (.goto (-24), 3) := by decide +kernel
theorem dX2_depth_50 : decode cX2_depth 50 = .ok (.iload_n 2, 1) := by decide +kernel
theorem dX2_depth_51 : decode cX2_depth 51 = .ok (.ireturn, 1) := by decide +kernel
set_option maxRecDepth 20000 in
theorem ggX2_inside_X2_isCase : GoodIn wsX2_inside wsX2_isCase := goodIn_ca (goodIn_r _ [6, 7, 8, 9, 10, 5, 11, 12, 13, 14, 15, 40, 41, 42, 43, 44, 45, 46, 47, 48, 49, 50, 51, 52, 53, 54, 55, 56] (by decide +kernel) (by decide +kernel)) (goodIn_sub (fun _ h => List.mem_cons_of_mem _ (List.mem_append_right _ h)) (by decide +kernel))
set_option maxRecDepth 20000 in
theorem gX2_inside_X2_isCase : GoodIn wsX2_inside (wsV RX2 126 RX2 yX2_isCase wsX2_isCase) := goodIn_app (goodIn_of _ (by decide +kernel)) ggX2_inside_X2_isCase
set_option maxRecDepth 20000 in
theorem ggX2_inside_X2_deepest : GoodIn wsX2_inside wsX2_deepest := goodIn_ca (goodIn_r _ [19, 7, 20, 21, 22, 5, 23, 24, 40, 41, 42, 43, 44, 45, 46, 47, 48, 49, 50, 51, 52, 53, 54, 55, 56] (by decide +kernel) (by decide +kernel)) (goodIn_sub (fun _ h => List.mem_cons_of_mem _ (List.mem_append_right _ h)) (by decide +kernel))
set_option maxRecDepth 20000 in
theorem gX2_inside_X2_deepest : GoodIn wsX2_inside (wsV RX2 132 RX2 yX2_deepest wsX2_deepest) := goodIn_app (goodIn_of _ (by decide +kernel)) ggX2_inside_X2_deepest
set_option maxRecDepth 20000 in
theorem ggX2_inside_X2_found : GoodIn wsX2_inside wsX2_found := goodIn_ca (goodIn_r _ [28, 29, 40, 41, 42, 43, 44, 45, 46, 47, 48, 49, 50, 51, 52, 53, 54, 55, 56] (by decide +kernel) (by decide +kernel)) (goodIn_sub (fun _ h => List.mem_cons_of_mem _ (List.mem_append_right _ h)) (by decide +kernel))
set_option maxRecDepth 20000 in
theorem gX2_inside_X2_found : GoodIn wsX2_inside (wsV RX2 89 RX2 yX2_found wsX2_found) := goodIn_app (goodIn_of _ (by decide +kernel)) ggX2_inside_X2_found
set_option maxRecDepth 20000 in
theorem ggX2_inside_X2_isOf : GoodIn wsX2_inside wsX2_isOf := goodIn_ca (goodIn_r _ [33, 34, 7, 40, 41, 42, 43, 44, 45, 46, 47, 48, 49, 50, 51, 52, 53, 54, 55, 56] (by decide +kernel) (by decide +kernel)) (goodIn_sub (fun _ h => List.mem_cons_of_mem _ (List.mem_append_right _ h)) (by decide +kernel))
set_option maxRecDepth 20000 in
theorem gX2_inside_X2_isOf : GoodIn wsX2_inside (wsV RX2 95 RX2 yX2_isOf wsX2_isOf) := goodIn_app (goodIn_of _ (by decide +kernel)) ggX2_inside_X2_isOf
set_option maxRecDepth 20000 in
theorem ggX2_inside_X2_worthOf : GoodIn wsX2_inside wsX2_worthOf := goodIn_ca (goodIn_r _ [38, 39, 7, 40, 41, 42, 43, 44, 45, 46, 47, 48, 49, 50, 51, 52, 53, 54, 55, 56] (by decide +kernel) (by decide +kernel)) (goodIn_sub (fun _ h => List.mem_cons_of_mem _ (List.mem_append_right _ h)) (by decide +kernel))
set_option maxRecDepth 20000 in
theorem gX2_inside_X2_worthOf : GoodIn wsX2_inside (wsV RX2 101 RX2 yX2_worthOf wsX2_worthOf) := goodIn_app (goodIn_of _ (by decide +kernel)) ggX2_inside_X2_worthOf
theorem dX2_inside_0 : decode cX2_inside 0 = .ok (.aload_n 0, 1) := by decide +kernel
theorem dX2_inside_1 : decode cX2_inside 1 = .ok (.iconst 0, 1) := by decide +kernel
theorem dX2_inside_2 : decode cX2_inside 2 = .ok (.putfield 59, 3) := by decide +kernel
theorem dX2_inside_5 : decode cX2_inside 5 = .ok (.aload_n 0, 1) := by decide +kernel
theorem dX2_inside_6 : decode cX2_inside 6 = .ok (.iload_n 1, 1) := by decide +kernel
theorem dX2_inside_7 : decode cX2_inside 7 = .ok (.invokevirtual 126, 3) := by decide +kernel
theorem dX2_inside_10 : decode cX2_inside 10 = .ok (.ifCond .ne 5, 3) := by decide +kernel
theorem dX2_inside_13 : decode cX2_inside 13 = .ok (.iconst (-1), 1) := by decide +kernel
theorem dX2_inside_14 : decode cX2_inside 14 = .ok (.ireturn, 1) := by decide +kernel
theorem dX2_inside_15 : decode cX2_inside 15 = .ok (.aload_n 0, 1) := by decide +kernel
theorem dX2_inside_16 : decode cX2_inside 16 = .ok (.iload_n 1, 1) := by decide +kernel
theorem dX2_inside_17 : decode cX2_inside 17 = .ok (.invokevirtual 132, 3) := by decide +kernel
theorem dX2_inside_20 : decode cX2_inside 20 = .ok (.istore_n 2, 1) := by decide +kernel
theorem dX2_inside_21 : decode cX2_inside 21 = .ok (.iload_n 2, 1) := by decide +kernel
theorem dX2_inside_22 : decode cX2_inside 22 = .ok (.ifCond .ge 11, 3) := by decide +kernel
theorem dX2_inside_25 : decode cX2_inside 25 = .ok (.aload_n 0, 1) := by decide +kernel
theorem dX2_inside_26 : decode cX2_inside 26 = .ok (.iconst 2, 1) := by decide +kernel
theorem dX2_inside_27 : decode cX2_inside 27 = .ok (.invokevirtual 89, 3) := by decide +kernel
theorem dX2_inside_30 : decode cX2_inside 30 = .ok (.goto 25, 3) := by decide +kernel
theorem dX2_inside_33 : decode cX2_inside 33 = .ok (.aload_n 0, 1) := by decide +kernel
theorem dX2_inside_34 : decode cX2_inside 34 = .ok (.iload_n 2, 1) := by decide +kernel
theorem dX2_inside_35 : decode cX2_inside 35 = .ok (.iconst 0, 1) := by decide +kernel
theorem dX2_inside_36 : decode cX2_inside 36 = .ok (.invokevirtual 95, 3) := by decide +kernel
theorem dX2_inside_39 : decode cX2_inside 39 = .ok (.ifCond .eq 11, 3) := by decide +kernel
theorem dX2_inside_42 : decode cX2_inside 42 = .ok (.aload_n 0, 1) := by decide +kernel
theorem dX2_inside_43 : decode cX2_inside 43 = .ok (.iload_n 2, 1) := by decide +kernel
theorem dX2_inside_44 : decode cX2_inside 44 = .ok (.invokevirtual 101, 3) := by decide +kernel
theorem dX2_inside_47 : decode cX2_inside 47 = .ok (.goto 8, 3) := by decide +kernel
theorem dX2_inside_50 : decode cX2_inside 50 = .ok (.aload_n 0, 1) := by decide +kernel
theorem dX2_inside_51 : decode cX2_inside 51 = .ok (.iconst 1, 1) := by decide +kernel
theorem dX2_inside_52 : decode cX2_inside 52 = .ok (.invokevirtual 89, 3) := by decide +kernel
theorem dX2_inside_55 : decode cX2_inside 55 = .ok (.ireturn, 1) := by decide +kernel
theorem dX2_loan_0 : decode cX2_loan 0 = .ok (.aload_n 0, 1) := by decide +kernel
theorem dX2_loan_1 : decode cX2_loan 1 = .ok (.iconst 0, 1) := by decide +kernel
theorem dX2_loan_2 : decode cX2_loan 2 = .ok (.putfield 59, 3) := by decide +kernel
theorem dX2_loan_5 : decode cX2_loan 5 = .ok (.aload_n 0, 1) := by decide +kernel
theorem dX2_loan_6 : decode cX2_loan 6 = .ok (.getfield 74, 3) := by decide +kernel
theorem dX2_loan_9 : decode cX2_loan 9 = .ok (.bipush 8, 2) := by decide +kernel
theorem dX2_loan_11 : decode cX2_loan 11 = .ok (.if_icmp .ne 6, 3) := by decide +kernel
theorem dX2_loan_14 : decode cX2_loan 14 = .ok (.bipush (-4), 2) := by decide +kernel
theorem dX2_loan_16 : decode cX2_loan 16 = .ok (.ireturn, 1) := by decide +kernel
theorem dX2_loan_17 : decode cX2_loan 17 = .ok (.aload_n 0, 1) := by decide +kernel
theorem dX2_loan_18 : decode cX2_loan 18 = .ok (.getfield 38, 3) := by decide +kernel
theorem dX2_loan_21 : decode cX2_loan 21 = .ok (.aload_n 0, 1) := by decide +kernel
theorem dX2_loan_22 : decode cX2_loan 22 = .ok (.getfield 74, 3) := by decide +kernel
theorem dX2_loan_25 : decode cX2_loan 25 = .ok (.iconst 0, 1) := by decide +kernel
theorem dX2_loan_26 : decode cX2_loan 26 = .ok (.iastore, 1) := by decide +kernel
theorem dX2_loan_27 : decode cX2_loan 27 = .ok (.aload_n 0, 1) := by decide +kernel
theorem dX2_loan_28 : decode cX2_loan 28 = .ok (.getfield 41, 3) := by decide +kernel
theorem dX2_loan_31 : decode cX2_loan 31 = .ok (.aload_n 0, 1) := by decide +kernel
theorem dX2_loan_32 : decode cX2_loan 32 = .ok (.getfield 74, 3) := by decide +kernel
theorem dX2_loan_35 : decode cX2_loan 35 = .ok (.iconst 0, 1) := by decide +kernel
theorem dX2_loan_36 : decode cX2_loan 36 = .ok (.iastore, 1) := by decide +kernel
theorem dX2_loan_37 : decode cX2_loan 37 = .ok (.aload_n 0, 1) := by decide +kernel
theorem dX2_loan_38 : decode cX2_loan 38 = .ok (.getfield 44, 3) := by decide +kernel
theorem dX2_loan_41 : decode cX2_loan 41 = .ok (.aload_n 0, 1) := by decide +kernel
theorem dX2_loan_42 : decode cX2_loan 42 = .ok (.getfield 74, 3) := by decide +kernel
theorem dX2_loan_45 : decode cX2_loan 45 = .ok (.bipush (-5), 2) := by decide +kernel
theorem dX2_loan_47 : decode cX2_loan 47 = .ok (.iastore, 1) := by decide +kernel
theorem dX2_loan_48 : decode cX2_loan 48 = .ok (.aload_n 0, 1) := by decide +kernel
theorem dX2_loan_49 : decode cX2_loan 49 = .ok (.dup, 1) := by decide +kernel
theorem dX2_loan_50 : decode cX2_loan 50 = .ok (.getfield 74, 3) := by decide +kernel
theorem dX2_loan_53 : decode cX2_loan 53 = .ok (.iconst 1, 1) := by decide +kernel
theorem dX2_loan_54 : decode cX2_loan 54 = .ok (.iadd, 1) := by decide +kernel
theorem dX2_loan_55 : decode cX2_loan 55 = .ok (.putfield 74, 3) := by decide +kernel
theorem dX2_loan_58 : decode cX2_loan 58 = .ok (.aload_n 0, 1) := by decide +kernel
theorem dX2_loan_59 : decode cX2_loan 59 = .ok (.getfield 74, 3) := by decide +kernel
theorem dX2_loan_62 : decode cX2_loan 62 = .ok (.iconst 1, 1) := by decide +kernel
theorem dX2_loan_63 : decode cX2_loan 63 = .ok (.isub, 1) := by decide +kernel
theorem dX2_loan_64 : decode cX2_loan 64 = .ok (.ireturn, 1) := by decide +kernel
set_option maxRecDepth 20000 in
theorem ggX2_want_X2_isLoan : GoodIn wsX2_want wsX2_isLoan := goodIn_r _ [12, 13, 14, 15, 11, 16, 27, 28, 29, 30, 31, 32, 33, 34, 35, 36, 37, 38, 39, 40, 41, 42, 43] (by decide +kernel) (by decide +kernel)
set_option maxRecDepth 20000 in
theorem gX2_want_X2_isLoan : GoodIn wsX2_want (wsV RX2 135 RX2 yX2_isLoan wsX2_isLoan) := goodIn_app (goodIn_of _ (by decide +kernel)) ggX2_want_X2_isLoan
set_option maxRecDepth 20000 in
theorem ggX2_want_X2_isCase : GoodIn wsX2_want wsX2_isCase := goodIn_ca (goodIn_r _ [20, 21, 22, 23, 24, 11, 25, 26, 14, 15, 16, 27, 28, 29, 30, 31, 32, 33, 34, 35, 36, 37, 38, 39, 40, 41, 42, 43] (by decide +kernel) (by decide +kernel)) (goodIn_sub (fun _ h => List.mem_cons_of_mem _ (List.mem_append_right _ h)) (by decide +kernel))
set_option maxRecDepth 20000 in
theorem gX2_want_X2_isCase : GoodIn wsX2_want (wsV RX2 126 RX2 yX2_isCase wsX2_isCase) := goodIn_app (goodIn_of _ (by decide +kernel)) ggX2_want_X2_isCase
set_option maxRecDepth 20000 in
theorem ggX2_want_X2_in : GoodIn wsX2_want wsX2_in := goodIn_r _ [16] (by decide +kernel) (by decide +kernel)
set_option maxRecDepth 20000 in
theorem gX2_want_X2_in : GoodIn wsX2_want (va_wsS RX2 66 yX2_in wsX2_in) := goodIn_app (goodIn_of _ (by decide +kernel)) ggX2_want_X2_in
theorem dX2_want_0 : decode cX2_want 0 = .ok (.aload_n 0, 1) := by decide +kernel
theorem dX2_want_1 : decode cX2_want 1 = .ok (.iconst 0, 1) := by decide +kernel
theorem dX2_want_2 : decode cX2_want 2 = .ok (.putfield 59, 3) := by decide +kernel
theorem dX2_want_5 : decode cX2_want 5 = .ok (.aload_n 0, 1) := by decide +kernel
theorem dX2_want_6 : decode cX2_want 6 = .ok (.iload_n 1, 1) := by decide +kernel
theorem dX2_want_7 : decode cX2_want 7 = .ok (.invokevirtual 135, 3) := by decide +kernel
theorem dX2_want_10 : decode cX2_want 10 = .ok (.ifCond .eq 11, 3) := by decide +kernel
theorem dX2_want_13 : decode cX2_want 13 = .ok (.aload_n 0, 1) := by decide +kernel
theorem dX2_want_14 : decode cX2_want 14 = .ok (.iload_n 2, 1) := by decide +kernel
theorem dX2_want_15 : decode cX2_want 15 = .ok (.invokevirtual 126, 3) := by decide +kernel
theorem dX2_want_18 : decode cX2_want 18 = .ok (.ifCond .ne 5, 3) := by decide +kernel
theorem dX2_want_21 : decode cX2_want 21 = .ok (.iconst (-1), 1) := by decide +kernel
theorem dX2_want_22 : decode cX2_want 22 = .ok (.ireturn, 1) := by decide +kernel
theorem dX2_want_23 : decode cX2_want 23 = .ok (.iload_n 3, 1) := by decide +kernel
theorem dX2_want_24 : decode cX2_want 24 = .ok (.i2l, 1) := by decide +kernel
theorem dX2_want_25 : decode cX2_want 25 = .ok (.lconst 0, 1) := by decide +kernel
theorem dX2_want_26 : decode cX2_want 26 = .ok (.ldc2_w 93, 3) := by decide +kernel
theorem dX2_want_29 : decode cX2_want 29 = .ok (.invokestatic 66, 3) := by decide +kernel
theorem dX2_want_32 : decode cX2_want 32 = .ok (.ifCond .ne 6, 3) := by decide +kernel
theorem dX2_want_35 : decode cX2_want 35 = .ok (.bipush (-2), 2) := by decide +kernel
theorem dX2_want_37 : decode cX2_want 37 = .ok (.ireturn, 1) := by decide +kernel
theorem dX2_want_38 : decode cX2_want 38 = .ok (.aload_n 0, 1) := by decide +kernel
theorem dX2_want_39 : decode cX2_want 39 = .ok (.getfield 38, 3) := by decide +kernel
theorem dX2_want_42 : decode cX2_want 42 = .ok (.iload_n 1, 1) := by decide +kernel
theorem dX2_want_43 : decode cX2_want 43 = .ok (.iaload, 1) := by decide +kernel
theorem dX2_want_44 : decode cX2_want 44 = .ok (.ifCond .eq 6, 3) := by decide +kernel
theorem dX2_want_47 : decode cX2_want 47 = .ok (.bipush (-3), 2) := by decide +kernel
theorem dX2_want_49 : decode cX2_want 49 = .ok (.ireturn, 1) := by decide +kernel
theorem dX2_want_50 : decode cX2_want 50 = .ok (.aload_n 0, 1) := by decide +kernel
theorem dX2_want_51 : decode cX2_want 51 = .ok (.getfield 41, 3) := by decide +kernel
theorem dX2_want_54 : decode cX2_want 54 = .ok (.iload_n 1, 1) := by decide +kernel
theorem dX2_want_55 : decode cX2_want 55 = .ok (.iaload, 1) := by decide +kernel
theorem dX2_want_56 : decode cX2_want 56 = .ok (.bipush 8, 2) := by decide +kernel
theorem dX2_want_58 : decode cX2_want 58 = .ok (.if_icmp .ne 6, 3) := by decide +kernel
theorem dX2_want_61 : decode cX2_want 61 = .ok (.bipush (-4), 2) := by decide +kernel
theorem dX2_want_63 : decode cX2_want 63 = .ok (.ireturn, 1) := by decide +kernel
theorem dX2_want_64 : decode cX2_want 64 = .ok (.bipush 8, 2) := by decide +kernel
theorem dX2_want_66 : decode cX2_want 66 = .ok (.iload_n 1, 1) := by decide +kernel
theorem dX2_want_67 : decode cX2_want 67 = .ok (.imul, 1) := by decide +kernel
theorem dX2_want_68 : decode cX2_want 68 = .ok (.aload_n 0, 1) := by decide +kernel
theorem dX2_want_69 : decode cX2_want 69 = .ok (.getfield 41, 3) := by decide +kernel
theorem dX2_want_72 : decode cX2_want 72 = .ok (.iload_n 1, 1) := by decide +kernel
theorem dX2_want_73 : decode cX2_want 73 = .ok (.iaload, 1) := by decide +kernel
theorem dX2_want_74 : decode cX2_want 74 = .ok (.iadd, 1) := by decide +kernel
theorem dX2_want_75 : decode cX2_want 75 = .ok (.istore 4, 2) := by decide +kernel
theorem dX2_want_77 : decode cX2_want 77 = .ok (.aload_n 0, 1) := by decide +kernel
theorem dX2_want_78 : decode cX2_want 78 = .ok (.getfield 47, 3) := by decide +kernel
theorem dX2_want_81 : decode cX2_want 81 = .ok (.iload 4, 2) := by decide +kernel
theorem dX2_want_83 : decode cX2_want 83 = .ok (.iload_n 2, 1) := by decide +kernel
theorem dX2_want_84 : decode cX2_want 84 = .ok (.iastore, 1) := by decide +kernel
theorem dX2_want_85 : decode cX2_want 85 = .ok (.aload_n 0, 1) := by decide +kernel
theorem dX2_want_86 : decode cX2_want 86 = .ok (.getfield 50, 3) := by decide +kernel
theorem dX2_want_89 : decode cX2_want 89 = .ok (.iload 4, 2) := by decide +kernel
theorem dX2_want_91 : decode cX2_want 91 = .ok (.iload_n 3, 1) := by decide +kernel
theorem dX2_want_92 : decode cX2_want 92 = .ok (.iastore, 1) := by decide +kernel
theorem dX2_want_93 : decode cX2_want 93 = .ok (.aload_n 0, 1) := by decide +kernel
theorem dX2_want_94 : decode cX2_want 94 = .ok (.getfield 53, 3) := by decide +kernel
theorem dX2_want_97 : decode cX2_want 97 = .ok (.iload 4, 2) := by decide +kernel
theorem dX2_want_99 : decode cX2_want 99 = .ok (.iconst (-1), 1) := by decide +kernel
theorem dX2_want_100 : decode cX2_want 100 = .ok (.iastore, 1) := by decide +kernel
theorem dX2_want_101 : decode cX2_want 101 = .ok (.aload_n 0, 1) := by decide +kernel
theorem dX2_want_102 : decode cX2_want 102 = .ok (.getfield 41, 3) := by decide +kernel
theorem dX2_want_105 : decode cX2_want 105 = .ok (.iload_n 1, 1) := by decide +kernel
theorem dX2_want_106 : decode cX2_want 106 = .ok (.dup2, 1) := by decide +kernel
theorem dX2_want_107 : decode cX2_want 107 = .ok (.iaload, 1) := by decide +kernel
theorem dX2_want_108 : decode cX2_want 108 = .ok (.iconst 1, 1) := by decide +kernel
theorem dX2_want_109 : decode cX2_want 109 = .ok (.iadd, 1) := by decide +kernel
theorem dX2_want_110 : decode cX2_want 110 = .ok (.iastore, 1) := by decide +kernel
theorem dX2_want_111 : decode cX2_want 111 = .ok (.aload_n 0, 1) := by decide +kernel
theorem dX2_want_112 : decode cX2_want 112 = .ok (.getfield 41, 3) := by decide +kernel
theorem dX2_want_115 : decode cX2_want 115 = .ok (.iload_n 1, 1) := by decide +kernel
theorem dX2_want_116 : decode cX2_want 116 = .ok (.iaload, 1) := by decide +kernel
theorem dX2_want_117 : decode cX2_want 117 = .ok (.ireturn, 1) := by decide +kernel
set_option maxRecDepth 20000 in
theorem ggX2_stuck_X2_found : GoodIn wsX2_stuck wsX2_found := goodIn_ca (goodIn_r _ [7, 8, 9, 10, 11, 12, 13, 14, 15, 16, 17, 18, 19, 20, 21, 22, 23, 24, 25] (by decide +kernel) (by decide +kernel)) (goodIn_sub (fun _ h => List.mem_cons_of_mem _ (List.mem_append_right _ h)) (by decide +kernel))
set_option maxRecDepth 20000 in
theorem gX2_stuck_X2_found : GoodIn wsX2_stuck (wsV RX2 89 RX2 yX2_found wsX2_found) := goodIn_app (goodIn_of _ (by decide +kernel)) ggX2_stuck_X2_found
theorem dX2_stuck_0 : decode cX2_stuck 0 = .ok (.aload_n 0, 1) := by decide +kernel
theorem dX2_stuck_1 : decode cX2_stuck 1 = .ok (.getfield 38, 3) := by decide +kernel
theorem dX2_stuck_4 : decode cX2_stuck 4 = .ok (.iload_n 1, 1) := by decide +kernel
theorem dX2_stuck_5 : decode cX2_stuck 5 = .ok (.iconst 1, 1) := by decide +kernel
theorem dX2_stuck_6 : decode cX2_stuck 6 = .ok (.iastore, 1) := by decide +kernel
theorem dX2_stuck_7 : decode cX2_stuck 7 = .ok (.aload_n 0, 1) := by decide +kernel
theorem dX2_stuck_8 : decode cX2_stuck 8 = .ok (.getfield 44, 3) := by decide +kernel
theorem dX2_stuck_11 : decode cX2_stuck 11 = .ok (.iload_n 1, 1) := by decide +kernel
theorem dX2_stuck_12 : decode cX2_stuck 12 = .ok (.iload_n 2, 1) := by decide +kernel
theorem dX2_stuck_13 : decode cX2_stuck 13 = .ok (.iastore, 1) := by decide +kernel
theorem dX2_stuck_14 : decode cX2_stuck 14 = .ok (.aload_n 0, 1) := by decide +kernel
theorem dX2_stuck_15 : decode cX2_stuck 15 = .ok (.iload_n 3, 1) := by decide +kernel
theorem dX2_stuck_16 : decode cX2_stuck 16 = .ok (.invokevirtual 89, 3) := by decide +kernel
theorem dX2_stuck_19 : decode cX2_stuck 19 = .ok (.ireturn, 1) := by decide +kernel
set_option maxRecDepth 20000 in
theorem ggX2_leave_X2_isLoan : GoodIn wsX2_leave wsX2_isLoan := goodIn_r _ [12, 13, 14, 15, 11, 16, 37, 38, 39, 40, 41, 42, 43, 44, 45, 46, 47, 48, 49, 50, 51, 52, 53] (by decide +kernel) (by decide +kernel)
set_option maxRecDepth 20000 in
theorem gX2_leave_X2_isLoan : GoodIn wsX2_leave (wsV RX2 135 RX2 yX2_isLoan wsX2_isLoan) := goodIn_app (goodIn_of _ (by decide +kernel)) ggX2_leave_X2_isLoan
set_option maxRecDepth 20000 in
theorem ggX2_leave_X2_heldBy : GoodIn wsX2_leave wsX2_heldBy := goodIn_ca (goodIn_r _ [20, 7, 37, 38, 39, 40, 41, 42, 43, 44, 45, 46, 47, 48, 49, 50, 51, 52, 53] (by decide +kernel) (by decide +kernel)) (goodIn_sub (fun _ h => List.mem_cons_of_mem _ (List.mem_append_right _ h)) (by decide +kernel))
set_option maxRecDepth 20000 in
theorem gX2_leave_X2_heldBy : GoodIn wsX2_leave (wsV RX2 123 RX2 yX2_heldBy wsX2_heldBy) := goodIn_app (goodIn_of _ (by decide +kernel)) ggX2_leave_X2_heldBy
set_option maxRecDepth 20000 in
theorem ggX2_leave_X2_stuck : GoodIn wsX2_leave wsX2_stuck := goodIn_ca (goodIn_r _ [24, 2, 25, 26, 27, 28, 11, 29, 30, 37, 38, 39, 40, 41, 42, 43, 44, 45, 46, 47, 48, 49, 50, 51, 52, 53] (by decide +kernel) (by decide +kernel)) (goodIn_sub (fun _ h => List.mem_cons_of_mem _ (List.mem_append_right _ h)) (by decide +kernel))
set_option maxRecDepth 20000 in
theorem gX2_leave_X2_stuck : GoodIn wsX2_leave (wsV RX2 138 RX2 yX2_stuck wsX2_stuck) := goodIn_app (goodIn_of _ (by decide +kernel)) ggX2_leave_X2_stuck
set_option maxRecDepth 20000 in
theorem ggX2_leave_X2_isOf : GoodIn wsX2_leave wsX2_isOf := goodIn_ca (goodIn_r _ [34, 35, 36, 37, 38, 39, 40, 41, 42, 43, 44, 45, 46, 47, 48, 49, 50, 51, 52, 53] (by decide +kernel) (by decide +kernel)) (goodIn_sub (fun _ h => List.mem_cons_of_mem _ (List.mem_append_right _ h)) (by decide +kernel))
set_option maxRecDepth 20000 in
theorem gX2_leave_X2_isOf : GoodIn wsX2_leave (wsV RX2 95 RX2 yX2_isOf wsX2_isOf) := goodIn_app (goodIn_of _ (by decide +kernel)) ggX2_leave_X2_isOf
theorem dX2_leave_0 : decode cX2_leave 0 = .ok (.aload_n 0, 1) := by decide +kernel
theorem dX2_leave_1 : decode cX2_leave 1 = .ok (.iconst 0, 1) := by decide +kernel
theorem dX2_leave_2 : decode cX2_leave 2 = .ok (.putfield 59, 3) := by decide +kernel
theorem dX2_leave_5 : decode cX2_leave 5 = .ok (.aload_n 0, 1) := by decide +kernel
theorem dX2_leave_6 : decode cX2_leave 6 = .ok (.iload_n 1, 1) := by decide +kernel
theorem dX2_leave_7 : decode cX2_leave 7 = .ok (.invokevirtual 135, 3) := by decide +kernel
theorem dX2_leave_10 : decode cX2_leave 10 = .ok (.ifCond .ne 5, 3) := by decide +kernel
theorem dX2_leave_13 : decode cX2_leave 13 = .ok (.iconst (-1), 1) := by decide +kernel
theorem dX2_leave_14 : decode cX2_leave 14 = .ok (.ireturn, 1) := by decide +kernel
theorem dX2_leave_15 : decode cX2_leave 15 = .ok (.aload_n 0, 1) := by decide +kernel
theorem dX2_leave_16 : decode cX2_leave 16 = .ok (.getfield 38, 3) := by decide +kernel
theorem dX2_leave_19 : decode cX2_leave 19 = .ok (.iload_n 1, 1) := by decide +kernel
theorem dX2_leave_20 : decode cX2_leave 20 = .ok (.iaload, 1) := by decide +kernel
theorem dX2_leave_21 : decode cX2_leave 21 = .ok (.ifCond .eq 6, 3) := by decide +kernel
theorem dX2_leave_24 : decode cX2_leave 24 = .ok (.bipush (-3), 2) := by decide +kernel
theorem dX2_leave_26 : decode cX2_leave 26 = .ok (.ireturn, 1) := by decide +kernel
theorem dX2_leave_27 : decode cX2_leave 27 = .ok (.iconst 0, 1) := by decide +kernel
theorem dX2_leave_28 : decode cX2_leave 28 = .ok (.istore_n 2, 1) := by decide +kernel
theorem dX2_leave_29 : decode cX2_leave 29 = .ok (.iload_n 2, 1) := by decide +kernel
theorem dX2_leave_30 : decode cX2_leave 30 = .ok (.aload_n 0, 1) := by decide +kernel
theorem dX2_leave_31 : decode cX2_leave 31 = .ok (.getfield 41, 3) := by decide +kernel
theorem dX2_leave_34 : decode cX2_leave 34 = .ok (.iload_n 1, 1) := by decide +kernel
theorem dX2_leave_35 : decode cX2_leave 35 = .ok (.iaload, 1) := by decide +kernel
theorem dX2_leave_36 : decode cX2_leave 36 = .ok (.if_icmp .ge 92, 3) := by decide +kernel
theorem dX2_leave_39 : decode cX2_leave 39 = .ok (.aload_n 0, 1) := by decide +kernel
theorem dX2_leave_40 : decode cX2_leave 40 = .ok (.getfield 47, 3) := by decide +kernel
theorem dX2_leave_43 : decode cX2_leave 43 = .ok (.bipush 8, 2) := by decide +kernel
theorem dX2_leave_45 : decode cX2_leave 45 = .ok (.iload_n 1, 1) := by decide +kernel
theorem dX2_leave_46 : decode cX2_leave 46 = .ok (.imul, 1) := by decide +kernel
theorem dX2_leave_47 : decode cX2_leave 47 = .ok (.iload_n 2, 1) := by decide +kernel
theorem dX2_leave_48 : decode cX2_leave 48 = .ok (.iadd, 1) := by decide +kernel
theorem dX2_leave_49 : decode cX2_leave 49 = .ok (.iaload, 1) := by decide +kernel
theorem dX2_leave_50 : decode cX2_leave 50 = .ok (.istore_n 3, 1) := by decide +kernel
theorem dX2_leave_51 : decode cX2_leave 51 = .ok (.aload_n 0, 1) := by decide +kernel
theorem dX2_leave_52 : decode cX2_leave 52 = .ok (.iload_n 3, 1) := by decide +kernel
theorem dX2_leave_53 : decode cX2_leave 53 = .ok (.invokevirtual 123, 3) := by decide +kernel
theorem dX2_leave_56 : decode cX2_leave 56 = .ok (.istore 4, 2) := by decide +kernel
theorem dX2_leave_58 : decode cX2_leave 58 = .ok (.iload 4, 2) := by decide +kernel
theorem dX2_leave_60 : decode cX2_leave 60 = .ok (.ifCond .ge 11, 3) := by decide +kernel
theorem dX2_leave_63 : decode cX2_leave 63 = .ok (.aload_n 0, 1) := by decide +kernel
theorem dX2_leave_64 : decode cX2_leave 64 = .ok (.iload_n 1, 1) := by decide +kernel
theorem dX2_leave_65 : decode cX2_leave 65 = .ok (.iload_n 2, 1) := by decide +kernel
theorem dX2_leave_66 : decode cX2_leave 66 = .ok (.iconst 2, 1) := by decide +kernel
theorem dX2_leave_67 : decode cX2_leave 67 = .ok (.invokevirtual 138, 3) := by decide +kernel
theorem dX2_leave_70 : decode cX2_leave 70 = .ok (.ireturn, 1) := by decide +kernel
theorem dX2_leave_71 : decode cX2_leave 71 = .ok (.aload_n 0, 1) := by decide +kernel
theorem dX2_leave_72 : decode cX2_leave 72 = .ok (.iload 4, 2) := by decide +kernel
theorem dX2_leave_74 : decode cX2_leave 74 = .ok (.aload_n 0, 1) := by decide +kernel
theorem dX2_leave_75 : decode cX2_leave 75 = .ok (.getfield 50, 3) := by decide +kernel
theorem dX2_leave_78 : decode cX2_leave 78 = .ok (.bipush 8, 2) := by decide +kernel
theorem dX2_leave_80 : decode cX2_leave 80 = .ok (.iload_n 1, 1) := by decide +kernel
theorem dX2_leave_81 : decode cX2_leave 81 = .ok (.imul, 1) := by decide +kernel
theorem dX2_leave_82 : decode cX2_leave 82 = .ok (.iload_n 2, 1) := by decide +kernel
theorem dX2_leave_83 : decode cX2_leave 83 = .ok (.iadd, 1) := by decide +kernel
theorem dX2_leave_84 : decode cX2_leave 84 = .ok (.iaload, 1) := by decide +kernel
theorem dX2_leave_85 : decode cX2_leave 85 = .ok (.invokevirtual 95, 3) := by decide +kernel
theorem dX2_leave_88 : decode cX2_leave 88 = .ok (.ifCond .ne 11, 3) := by decide +kernel
theorem dX2_leave_91 : decode cX2_leave 91 = .ok (.aload_n 0, 1) := by decide +kernel
theorem dX2_leave_92 : decode cX2_leave 92 = .ok (.iload_n 1, 1) := by decide +kernel
theorem dX2_leave_93 : decode cX2_leave 93 = .ok (.iload_n 2, 1) := by decide +kernel
theorem dX2_leave_94 : decode cX2_leave 94 = .ok (.iconst 1, 1) := by decide +kernel
theorem dX2_leave_95 : decode cX2_leave 95 = .ok (.invokevirtual 138, 3) := by decide +kernel
theorem dX2_leave_98 : decode cX2_leave 98 = .ok (.ireturn, 1) := by decide +kernel
theorem dX2_leave_99 : decode cX2_leave 99 = .ok (.aload_n 0, 1) := by decide +kernel
theorem dX2_leave_100 : decode cX2_leave 100 = .ok (.getfield 53, 3) := by decide +kernel
theorem dX2_leave_103 : decode cX2_leave 103 = .ok (.bipush 8, 2) := by decide +kernel
theorem dX2_leave_105 : decode cX2_leave 105 = .ok (.iload_n 1, 1) := by decide +kernel
theorem dX2_leave_106 : decode cX2_leave 106 = .ok (.imul, 1) := by decide +kernel
theorem dX2_leave_107 : decode cX2_leave 107 = .ok (.iload_n 2, 1) := by decide +kernel
theorem dX2_leave_108 : decode cX2_leave 108 = .ok (.iadd, 1) := by decide +kernel
theorem dX2_leave_109 : decode cX2_leave 109 = .ok (.iload 4, 2) := by decide +kernel
theorem dX2_leave_111 : decode cX2_leave 111 = .ok (.iastore, 1) := by decide +kernel
theorem dX2_leave_112 : decode cX2_leave 112 = .ok (.aload_n 0, 1) := by decide +kernel
theorem dX2_leave_113 : decode cX2_leave 113 = .ok (.getfield 23, 3) := by decide +kernel
theorem dX2_leave_116 : decode cX2_leave 116 = .ok (.bipush 10, 2) := by decide +kernel
theorem dX2_leave_118 : decode cX2_leave 118 = .ok (.iload_n 3, 1) := by decide +kernel
theorem dX2_leave_119 : decode cX2_leave 119 = .ok (.imul, 1) := by decide +kernel
theorem dX2_leave_120 : decode cX2_leave 120 = .ok (.iconst (-1), 1) := by decide +kernel
theorem dX2_leave_121 : decode cX2_leave 121 = .ok (.iastore, 1) := by decide +kernel
theorem dX2_leave_122 : decode cX2_leave 122 = .ok (.iinc 2 1, 3) := by decide +kernel
theorem dX2_leave_125 : decode cX2_leave 125 = .ok (.goto (-96), 3) := by decide +kernel
theorem dX2_leave_128 : decode cX2_leave 128 = .ok (.aload_n 0, 1) := by decide +kernel
theorem dX2_leave_129 : decode cX2_leave 129 = .ok (.getfield 38, 3) := by decide +kernel
theorem dX2_leave_132 : decode cX2_leave 132 = .ok (.iload_n 1, 1) := by decide +kernel
theorem dX2_leave_133 : decode cX2_leave 133 = .ok (.iconst 2, 1) := by decide +kernel
theorem dX2_leave_134 : decode cX2_leave 134 = .ok (.iastore, 1) := by decide +kernel
theorem dX2_leave_135 : decode cX2_leave 135 = .ok (.iconst 1, 1) := by decide +kernel
theorem dX2_leave_136 : decode cX2_leave 136 = .ok (.ireturn, 1) := by decide +kernel
set_option maxRecDepth 20000 in
theorem ggX2_back_X2_isLoan : GoodIn wsX2_back wsX2_isLoan := goodIn_r _ [12, 13, 14, 15, 11, 16, 26, 27, 28, 29, 30, 31, 32, 33, 34, 35, 36, 37, 38, 39, 40, 41, 42] (by decide +kernel) (by decide +kernel)
set_option maxRecDepth 20000 in
theorem gX2_back_X2_isLoan : GoodIn wsX2_back (wsV RX2 135 RX2 yX2_isLoan wsX2_isLoan) := goodIn_app (goodIn_of _ (by decide +kernel)) ggX2_back_X2_isLoan
set_option maxRecDepth 20000 in
theorem ggX2_back_X2_heldBy : GoodIn wsX2_back wsX2_heldBy := goodIn_ca (goodIn_r _ [20, 6, 26, 27, 28, 29, 30, 31, 32, 33, 34, 35, 36, 37, 38, 39, 40, 41, 42] (by decide +kernel) (by decide +kernel)) (goodIn_sub (fun _ h => List.mem_cons_of_mem _ (List.mem_append_right _ h)) (by decide +kernel))
set_option maxRecDepth 20000 in
theorem gX2_back_X2_heldBy : GoodIn wsX2_back (wsV RX2 123 RX2 yX2_heldBy wsX2_heldBy) := goodIn_app (goodIn_of _ (by decide +kernel)) ggX2_back_X2_heldBy
set_option maxRecDepth 20000 in
theorem ggX2_back_X2_isWithin : GoodIn wsX2_back wsX2_isWithin := goodIn_ca (goodIn_r _ [24, 25, 17, 18, 19, 11, 20, 6, 26, 27, 28, 29, 30, 31, 32, 33, 34, 35, 36, 37, 38, 39, 40, 41, 42] (by decide +kernel) (by decide +kernel)) (goodIn_sub (fun _ h => List.mem_cons_of_mem _ (List.mem_append_right _ h)) (by decide +kernel))
set_option maxRecDepth 20000 in
theorem gX2_back_X2_isWithin : GoodIn wsX2_back (wsV RX2 129 RX2 yX2_isWithin wsX2_isWithin) := goodIn_app (goodIn_of _ (by decide +kernel)) ggX2_back_X2_isWithin
theorem dX2_back_0 : decode cX2_back 0 = .ok (.aload_n 0, 1) := by decide +kernel
theorem dX2_back_1 : decode cX2_back 1 = .ok (.iconst 0, 1) := by decide +kernel
theorem dX2_back_2 : decode cX2_back 2 = .ok (.putfield 59, 3) := by decide +kernel
theorem dX2_back_5 : decode cX2_back 5 = .ok (.aload_n 0, 1) := by decide +kernel
theorem dX2_back_6 : decode cX2_back 6 = .ok (.iload_n 1, 1) := by decide +kernel
theorem dX2_back_7 : decode cX2_back 7 = .ok (.invokevirtual 135, 3) := by decide +kernel
theorem dX2_back_10 : decode cX2_back 10 = .ok (.ifCond .ne 5, 3) := by decide +kernel
theorem dX2_back_13 : decode cX2_back 13 = .ok (.iconst (-1), 1) := by decide +kernel
theorem dX2_back_14 : decode cX2_back 14 = .ok (.ireturn, 1) := by decide +kernel
theorem dX2_back_15 : decode cX2_back 15 = .ok (.aload_n 0, 1) := by decide +kernel
theorem dX2_back_16 : decode cX2_back 16 = .ok (.getfield 38, 3) := by decide +kernel
theorem dX2_back_19 : decode cX2_back 19 = .ok (.iload_n 1, 1) := by decide +kernel
theorem dX2_back_20 : decode cX2_back 20 = .ok (.iaload, 1) := by decide +kernel
theorem dX2_back_21 : decode cX2_back 21 = .ok (.ifCond .eq 13, 3) := by decide +kernel
theorem dX2_back_24 : decode cX2_back 24 = .ok (.aload_n 0, 1) := by decide +kernel
theorem dX2_back_25 : decode cX2_back 25 = .ok (.getfield 38, 3) := by decide +kernel
theorem dX2_back_28 : decode cX2_back 28 = .ok (.iload_n 1, 1) := by decide +kernel
theorem dX2_back_29 : decode cX2_back 29 = .ok (.iaload, 1) := by decide +kernel
theorem dX2_back_30 : decode cX2_back 30 = .ok (.iconst 3, 1) := by decide +kernel
theorem dX2_back_31 : decode cX2_back 31 = .ok (.if_icmp .ne 6, 3) := by decide +kernel
theorem dX2_back_34 : decode cX2_back 34 = .ok (.bipush (-3), 2) := by decide +kernel
theorem dX2_back_36 : decode cX2_back 36 = .ok (.ireturn, 1) := by decide +kernel
theorem dX2_back_37 : decode cX2_back 37 = .ok (.iconst 0, 1) := by decide +kernel
theorem dX2_back_38 : decode cX2_back 38 = .ok (.istore_n 2, 1) := by decide +kernel
theorem dX2_back_39 : decode cX2_back 39 = .ok (.bipush (-5), 2) := by decide +kernel
theorem dX2_back_41 : decode cX2_back 41 = .ok (.istore_n 3, 1) := by decide +kernel
theorem dX2_back_42 : decode cX2_back 42 = .ok (.aload_n 0, 1) := by decide +kernel
theorem dX2_back_43 : decode cX2_back 43 = .ok (.getfield 41, 3) := by decide +kernel
theorem dX2_back_46 : decode cX2_back 46 = .ok (.iload_n 1, 1) := by decide +kernel
theorem dX2_back_47 : decode cX2_back 47 = .ok (.iaload, 1) := by decide +kernel
theorem dX2_back_48 : decode cX2_back 48 = .ok (.iconst 1, 1) := by decide +kernel
theorem dX2_back_49 : decode cX2_back 49 = .ok (.isub, 1) := by decide +kernel
theorem dX2_back_50 : decode cX2_back 50 = .ok (.istore 4, 2) := by decide +kernel
theorem dX2_back_52 : decode cX2_back 52 = .ok (.iload 4, 2) := by decide +kernel
theorem dX2_back_54 : decode cX2_back 54 = .ok (.ifCond .lt 106, 3) := by decide +kernel
theorem dX2_back_57 : decode cX2_back 57 = .ok (.aload_n 0, 1) := by decide +kernel
theorem dX2_back_58 : decode cX2_back 58 = .ok (.getfield 53, 3) := by decide +kernel
theorem dX2_back_61 : decode cX2_back 61 = .ok (.bipush 8, 2) := by decide +kernel
theorem dX2_back_63 : decode cX2_back 63 = .ok (.iload_n 1, 1) := by decide +kernel
theorem dX2_back_64 : decode cX2_back 64 = .ok (.imul, 1) := by decide +kernel
theorem dX2_back_65 : decode cX2_back 65 = .ok (.iload 4, 2) := by decide +kernel
theorem dX2_back_67 : decode cX2_back 67 = .ok (.iadd, 1) := by decide +kernel
theorem dX2_back_68 : decode cX2_back 68 = .ok (.iaload, 1) := by decide +kernel
theorem dX2_back_69 : decode cX2_back 69 = .ok (.istore 5, 2) := by decide +kernel
theorem dX2_back_71 : decode cX2_back 71 = .ok (.iload 5, 2) := by decide +kernel
theorem dX2_back_73 : decode cX2_back 73 = .ok (.ifCond .ge 6, 3) := by decide +kernel
theorem dX2_back_76 : decode cX2_back 76 = .ok (.goto 78, 3) := by decide +kernel
theorem dX2_back_79 : decode cX2_back 79 = .ok (.aload_n 0, 1) := by decide +kernel
theorem dX2_back_80 : decode cX2_back 80 = .ok (.getfield 47, 3) := by decide +kernel
theorem dX2_back_83 : decode cX2_back 83 = .ok (.bipush 8, 2) := by decide +kernel
theorem dX2_back_85 : decode cX2_back 85 = .ok (.iload_n 1, 1) := by decide +kernel
theorem dX2_back_86 : decode cX2_back 86 = .ok (.imul, 1) := by decide +kernel
theorem dX2_back_87 : decode cX2_back 87 = .ok (.iload 4, 2) := by decide +kernel
theorem dX2_back_89 : decode cX2_back 89 = .ok (.iadd, 1) := by decide +kernel
theorem dX2_back_90 : decode cX2_back 90 = .ok (.iaload, 1) := by decide +kernel
theorem dX2_back_91 : decode cX2_back 91 = .ok (.istore 6, 2) := by decide +kernel
theorem dX2_back_93 : decode cX2_back 93 = .ok (.aload_n 0, 1) := by decide +kernel
theorem dX2_back_94 : decode cX2_back 94 = .ok (.iload 6, 2) := by decide +kernel
theorem dX2_back_96 : decode cX2_back 96 = .ok (.invokevirtual 123, 3) := by decide +kernel
theorem dX2_back_99 : decode cX2_back 99 = .ok (.ifCond .ge 52, 3) := by decide +kernel
theorem dX2_back_102 : decode cX2_back 102 = .ok (.iload 5, 2) := by decide +kernel
theorem dX2_back_104 : decode cX2_back 104 = .ok (.iload 6, 2) := by decide +kernel
theorem dX2_back_106 : decode cX2_back 106 = .ok (.if_icmp .eq 45, 3) := by decide +kernel
theorem dX2_back_109 : decode cX2_back 109 = .ok (.aload_n 0, 1) := by decide +kernel
theorem dX2_back_110 : decode cX2_back 110 = .ok (.iload 6, 2) := by decide +kernel
theorem dX2_back_112 : decode cX2_back 112 = .ok (.iload 5, 2) := by decide +kernel
theorem dX2_back_114 : decode cX2_back 114 = .ok (.invokevirtual 129, 3) := by decide +kernel
theorem dX2_back_117 : decode cX2_back 117 = .ok (.ifCond .ne 34, 3) := by decide +kernel
theorem dX2_back_120 : decode cX2_back 120 = .ok (.aload_n 0, 1) := by decide +kernel
theorem dX2_back_121 : decode cX2_back 121 = .ok (.getfield 23, 3) := by decide +kernel
theorem dX2_back_124 : decode cX2_back 124 = .ok (.bipush 10, 2) := by decide +kernel
theorem dX2_back_126 : decode cX2_back 126 = .ok (.iload 6, 2) := by decide +kernel
theorem dX2_back_128 : decode cX2_back 128 = .ok (.imul, 1) := by decide +kernel
theorem dX2_back_129 : decode cX2_back 129 = .ok (.iload 5, 2) := by decide +kernel
theorem dX2_back_131 : decode cX2_back 131 = .ok (.iastore, 1) := by decide +kernel
theorem dX2_back_132 : decode cX2_back 132 = .ok (.aload_n 0, 1) := by decide +kernel
theorem dX2_back_133 : decode cX2_back 133 = .ok (.getfield 53, 3) := by decide +kernel
theorem dX2_back_136 : decode cX2_back 136 = .ok (.bipush 8, 2) := by decide +kernel
theorem dX2_back_138 : decode cX2_back 138 = .ok (.iload_n 1, 1) := by decide +kernel
theorem dX2_back_139 : decode cX2_back 139 = .ok (.imul, 1) := by decide +kernel
theorem dX2_back_140 : decode cX2_back 140 = .ok (.iload 4, 2) := by decide +kernel
theorem dX2_back_142 : decode cX2_back 142 = .ok (.iadd, 1) := by decide +kernel
theorem dX2_back_143 : decode cX2_back 143 = .ok (.iconst (-1), 1) := by decide +kernel
theorem dX2_back_144 : decode cX2_back 144 = .ok (.iastore, 1) := by decide +kernel
theorem dX2_back_145 : decode cX2_back 145 = .ok (.iinc 2 1, 3) := by decide +kernel
theorem dX2_back_148 : decode cX2_back 148 = .ok (.goto 6, 3) := by decide +kernel
theorem dX2_back_151 : decode cX2_back 151 = .ok (.iload 4, 2) := by decide +kernel
theorem dX2_back_153 : decode cX2_back 153 = .ok (.istore_n 3, 1) := by decide +kernel
theorem dX2_back_154 : decode cX2_back 154 = .ok (.iinc 4 (-1), 3) := by decide +kernel
theorem dX2_back_157 : decode cX2_back 157 = .ok (.goto (-105), 3) := by decide +kernel
theorem dX2_back_160 : decode cX2_back 160 = .ok (.aload_n 0, 1) := by decide +kernel
theorem dX2_back_161 : decode cX2_back 161 = .ok (.getfield 38, 3) := by decide +kernel
theorem dX2_back_164 : decode cX2_back 164 = .ok (.iload_n 1, 1) := by decide +kernel
theorem dX2_back_165 : decode cX2_back 165 = .ok (.iload_n 3, 1) := by decide +kernel
theorem dX2_back_166 : decode cX2_back 166 = .ok (.bipush (-5), 2) := by decide +kernel
theorem dX2_back_168 : decode cX2_back 168 = .ok (.if_icmp .ne 7, 3) := by decide +kernel
theorem dX2_back_171 : decode cX2_back 171 = .ok (.iconst 3, 1) := by decide +kernel
theorem dX2_back_172 : decode cX2_back 172 = .ok (.goto 4, 3) := by decide +kernel
theorem dX2_back_175 : decode cX2_back 175 = .ok (.iconst 1, 1) := by decide +kernel
theorem dX2_back_176 : decode cX2_back 176 = .ok (.iastore, 1) := by decide +kernel
theorem dX2_back_177 : decode cX2_back 177 = .ok (.aload_n 0, 1) := by decide +kernel
theorem dX2_back_178 : decode cX2_back 178 = .ok (.getfield 44, 3) := by decide +kernel
theorem dX2_back_181 : decode cX2_back 181 = .ok (.iload_n 1, 1) := by decide +kernel
theorem dX2_back_182 : decode cX2_back 182 = .ok (.iload_n 3, 1) := by decide +kernel
theorem dX2_back_183 : decode cX2_back 183 = .ok (.iastore, 1) := by decide +kernel
theorem dX2_back_184 : decode cX2_back 184 = .ok (.iload_n 2, 1) := by decide +kernel
theorem dX2_back_185 : decode cX2_back 185 = .ok (.ireturn, 1) := by decide +kernel
set_option maxRecDepth 20000 in
theorem ggX2_told__X2_isLoan : GoodIn wsX2_told_ wsX2_isLoan := goodIn_r _ [11, 12, 13, 14, 10, 15, 16, 17, 18, 19, 20, 21, 22, 23, 24, 25, 26, 27, 28, 29, 30, 31, 32] (by decide +kernel) (by decide +kernel)
set_option maxRecDepth 20000 in
theorem gX2_told__X2_isLoan : GoodIn wsX2_told_ (wsV RX2 135 RX2 yX2_isLoan wsX2_isLoan) := goodIn_app (goodIn_of _ (by decide +kernel)) ggX2_told__X2_isLoan
set_option maxRecDepth 20000 in
theorem ggX2_told__X2_in : GoodIn wsX2_told_ wsX2_in := goodIn_r _ [15] (by decide +kernel) (by decide +kernel)
set_option maxRecDepth 20000 in
theorem gX2_told__X2_in : GoodIn wsX2_told_ (va_wsS RX2 66 yX2_in wsX2_in) := goodIn_app (goodIn_of _ (by decide +kernel)) ggX2_told__X2_in
theorem dX2_told__0 : decode cX2_told_ 0 = .ok (.aload_n 0, 1) := by decide +kernel
theorem dX2_told__1 : decode cX2_told_ 1 = .ok (.iconst 0, 1) := by decide +kernel
theorem dX2_told__2 : decode cX2_told_ 2 = .ok (.putfield 59, 3) := by decide +kernel
theorem dX2_told__5 : decode cX2_told_ 5 = .ok (.aload_n 0, 1) := by decide +kernel
theorem dX2_told__6 : decode cX2_told_ 6 = .ok (.iload_n 1, 1) := by decide +kernel
theorem dX2_told__7 : decode cX2_told_ 7 = .ok (.invokevirtual 135, 3) := by decide +kernel
theorem dX2_told__10 : decode cX2_told_ 10 = .ok (.ifCond .ne 5, 3) := by decide +kernel
theorem dX2_told__13 : decode cX2_told_ 13 = .ok (.iconst (-1), 1) := by decide +kernel
theorem dX2_told__14 : decode cX2_told_ 14 = .ok (.ireturn, 1) := by decide +kernel
theorem dX2_told__15 : decode cX2_told_ 15 = .ok (.iload_n 2, 1) := by decide +kernel
theorem dX2_told__16 : decode cX2_told_ 16 = .ok (.i2l, 1) := by decide +kernel
theorem dX2_told__17 : decode cX2_told_ 17 = .ok (.lconst 0, 1) := by decide +kernel
theorem dX2_told__18 : decode cX2_told_ 18 = .ok (.ldc2_w 99, 3) := by decide +kernel
theorem dX2_told__21 : decode cX2_told_ 21 = .ok (.invokestatic 66, 3) := by decide +kernel
theorem dX2_told__24 : decode cX2_told_ 24 = .ok (.ifCond .ne 6, 3) := by decide +kernel
theorem dX2_told__27 : decode cX2_told_ 27 = .ok (.bipush (-2), 2) := by decide +kernel
theorem dX2_told__29 : decode cX2_told_ 29 = .ok (.ireturn, 1) := by decide +kernel
theorem dX2_told__30 : decode cX2_told_ 30 = .ok (.iconst 0, 1) := by decide +kernel
theorem dX2_told__31 : decode cX2_told_ 31 = .ok (.istore_n 3, 1) := by decide +kernel
theorem dX2_told__32 : decode cX2_told_ 32 = .ok (.iconst 0, 1) := by decide +kernel
theorem dX2_told__33 : decode cX2_told_ 33 = .ok (.istore 4, 2) := by decide +kernel
theorem dX2_told__35 : decode cX2_told_ 35 = .ok (.iload 4, 2) := by decide +kernel
theorem dX2_told__37 : decode cX2_told_ 37 = .ok (.aload_n 0, 1) := by decide +kernel
theorem dX2_told__38 : decode cX2_told_ 38 = .ok (.getfield 41, 3) := by decide +kernel
theorem dX2_told__41 : decode cX2_told_ 41 = .ok (.iload_n 1, 1) := by decide +kernel
theorem dX2_told__42 : decode cX2_told_ 42 = .ok (.iaload, 1) := by decide +kernel
theorem dX2_told__43 : decode cX2_told_ 43 = .ok (.if_icmp .ge 32, 3) := by decide +kernel
theorem dX2_told__46 : decode cX2_told_ 46 = .ok (.iload_n 3, 1) := by decide +kernel
theorem dX2_told__47 : decode cX2_told_ 47 = .ok (.aload_n 0, 1) := by decide +kernel
theorem dX2_told__48 : decode cX2_told_ 48 = .ok (.getfield 53, 3) := by decide +kernel
theorem dX2_told__51 : decode cX2_told_ 51 = .ok (.bipush 8, 2) := by decide +kernel
theorem dX2_told__53 : decode cX2_told_ 53 = .ok (.iload_n 1, 1) := by decide +kernel
theorem dX2_told__54 : decode cX2_told_ 54 = .ok (.imul, 1) := by decide +kernel
theorem dX2_told__55 : decode cX2_told_ 55 = .ok (.iload 4, 2) := by decide +kernel
theorem dX2_told__57 : decode cX2_told_ 57 = .ok (.iadd, 1) := by decide +kernel
theorem dX2_told__58 : decode cX2_told_ 58 = .ok (.iaload, 1) := by decide +kernel
theorem dX2_told__59 : decode cX2_told_ 59 = .ok (.ifCond .ge 7, 3) := by decide +kernel
theorem dX2_told__62 : decode cX2_told_ 62 = .ok (.iconst 0, 1) := by decide +kernel
theorem dX2_told__63 : decode cX2_told_ 63 = .ok (.goto 4, 3) := by decide +kernel
theorem dX2_told__66 : decode cX2_told_ 66 = .ok (.iconst 1, 1) := by decide +kernel
theorem dX2_told__67 : decode cX2_told_ 67 = .ok (.iadd, 1) := by decide +kernel
theorem dX2_told__68 : decode cX2_told_ 68 = .ok (.istore_n 3, 1) := by decide +kernel
theorem dX2_told__69 : decode cX2_told_ 69 = .ok (.iinc 4 1, 3) := by decide +kernel
theorem dX2_told__72 : decode cX2_told_ 72 = .ok (.goto (-37), 3) := by decide +kernel
theorem dX2_told__75 : decode cX2_told_ 75 = .ok (.iload_n 2, 1) := by decide +kernel
theorem dX2_told__76 : decode cX2_told_ 76 = .ok (.ifCond .ne 12, 3) := by decide +kernel
theorem dX2_told__79 : decode cX2_told_ 79 = .ok (.aload_n 0, 1) := by decide +kernel
theorem dX2_told__80 : decode cX2_told_ 80 = .ok (.getfield 38, 3) := by decide +kernel
theorem dX2_told__83 : decode cX2_told_ 83 = .ok (.iload_n 1, 1) := by decide +kernel
theorem dX2_told__84 : decode cX2_told_ 84 = .ok (.iaload, 1) := by decide +kernel
theorem dX2_told__85 : decode cX2_told_ 85 = .ok (.goto 32, 3) := by decide +kernel
theorem dX2_told__88 : decode cX2_told_ 88 = .ok (.iload_n 2, 1) := by decide +kernel
theorem dX2_told__89 : decode cX2_told_ 89 = .ok (.iconst 1, 1) := by decide +kernel
theorem dX2_told__90 : decode cX2_told_ 90 = .ok (.if_icmp .ne 12, 3) := by decide +kernel
theorem dX2_told__93 : decode cX2_told_ 93 = .ok (.aload_n 0, 1) := by decide +kernel
theorem dX2_told__94 : decode cX2_told_ 94 = .ok (.getfield 41, 3) := by decide +kernel
theorem dX2_told__97 : decode cX2_told_ 97 = .ok (.iload_n 1, 1) := by decide +kernel
theorem dX2_told__98 : decode cX2_told_ 98 = .ok (.iaload, 1) := by decide +kernel
theorem dX2_told__99 : decode cX2_told_ 99 = .ok (.goto 18, 3) := by decide +kernel
theorem dX2_told__102 : decode cX2_told_ 102 = .ok (.iload_n 2, 1) := by decide +kernel
theorem dX2_told__103 : decode cX2_told_ 103 = .ok (.iconst 2, 1) := by decide +kernel
theorem dX2_told__104 : decode cX2_told_ 104 = .ok (.if_icmp .ne 7, 3) := by decide +kernel
theorem dX2_told__107 : decode cX2_told_ 107 = .ok (.iload_n 3, 1) := by decide +kernel
theorem dX2_told__108 : decode cX2_told_ 108 = .ok (.goto 9, 3) := by decide +kernel
theorem dX2_told__111 : decode cX2_told_ 111 = .ok (.aload_n 0, 1) := by decide +kernel
theorem dX2_told__112 : decode cX2_told_ 112 = .ok (.getfield 44, 3) := by decide +kernel
theorem dX2_told__115 : decode cX2_told_ 115 = .ok (.iload_n 1, 1) := by decide +kernel
theorem dX2_told__116 : decode cX2_told_ 116 = .ok (.iaload, 1) := by decide +kernel
theorem dX2_told__117 : decode cX2_told_ 117 = .ok (.ireturn, 1) := by decide +kernel
set_option maxRecDepth 20000 in
theorem ggX2_van_X2_isLoan : GoodIn wsX2_van wsX2_isLoan := goodIn_r _ [8, 9, 10, 11, 7, 12, 16, 17, 18, 19, 20, 21, 22, 23, 24, 25, 26, 27, 28, 29, 30, 31, 32] (by decide +kernel) (by decide +kernel)
set_option maxRecDepth 20000 in
theorem gX2_van_X2_isLoan : GoodIn wsX2_van (wsV RX2 135 RX2 yX2_isLoan wsX2_isLoan) := goodIn_app (goodIn_of _ (by decide +kernel)) ggX2_van_X2_isLoan
set_option maxRecDepth 20000 in
theorem ggX2_van_X2_in : GoodIn wsX2_van wsX2_in := goodIn_r _ [12] (by decide +kernel) (by decide +kernel)
set_option maxRecDepth 20000 in
theorem gX2_van_X2_in : GoodIn wsX2_van (va_wsS RX2 66 yX2_in wsX2_in) := goodIn_app (goodIn_of _ (by decide +kernel)) ggX2_van_X2_in
set_option maxRecDepth 20000 in
theorem ggX2_van_X2_told : GoodIn wsX2_van wsX2_told := goodIn_r _ [15] (by decide +kernel) (by decide +kernel)
set_option maxRecDepth 20000 in
theorem gX2_van_X2_told : GoodIn wsX2_van (va_wsS RX2 120 yX2_told wsX2_told) := goodIn_app (goodIn_of _ (by decide +kernel)) ggX2_van_X2_told
theorem dX2_van_0 : decode cX2_van 0 = .ok (.aload_n 0, 1) := by decide +kernel
theorem dX2_van_1 : decode cX2_van 1 = .ok (.iconst 0, 1) := by decide +kernel
theorem dX2_van_2 : decode cX2_van 2 = .ok (.putfield 59, 3) := by decide +kernel
theorem dX2_van_5 : decode cX2_van 5 = .ok (.aload_n 0, 1) := by decide +kernel
theorem dX2_van_6 : decode cX2_van 6 = .ok (.iload_n 1, 1) := by decide +kernel
theorem dX2_van_7 : decode cX2_van 7 = .ok (.invokevirtual 135, 3) := by decide +kernel
theorem dX2_van_10 : decode cX2_van 10 = .ok (.ifCond .ne 7, 3) := by decide +kernel
theorem dX2_van_13 : decode cX2_van 13 = .ok (.iconst (-1), 1) := by decide +kernel
theorem dX2_van_14 : decode cX2_van 14 = .ok (.goto 40, 3) := by decide +kernel
theorem dX2_van_17 : decode cX2_van 17 = .ok (.iload_n 2, 1) := by decide +kernel
theorem dX2_van_18 : decode cX2_van 18 = .ok (.i2l, 1) := by decide +kernel
theorem dX2_van_19 : decode cX2_van 19 = .ok (.lconst 0, 1) := by decide +kernel
theorem dX2_van_20 : decode cX2_van 20 = .ok (.aload_n 0, 1) := by decide +kernel
theorem dX2_van_21 : decode cX2_van 21 = .ok (.getfield 41, 3) := by decide +kernel
theorem dX2_van_24 : decode cX2_van 24 = .ok (.iload_n 1, 1) := by decide +kernel
theorem dX2_van_25 : decode cX2_van 25 = .ok (.iaload, 1) := by decide +kernel
theorem dX2_van_26 : decode cX2_van 26 = .ok (.iconst 1, 1) := by decide +kernel
theorem dX2_van_27 : decode cX2_van 27 = .ok (.isub, 1) := by decide +kernel
theorem dX2_van_28 : decode cX2_van 28 = .ok (.i2l, 1) := by decide +kernel
theorem dX2_van_29 : decode cX2_van 29 = .ok (.invokestatic 66, 3) := by decide +kernel
theorem dX2_van_32 : decode cX2_van 32 = .ok (.ifCond .eq 20, 3) := by decide +kernel
theorem dX2_van_35 : decode cX2_van 35 = .ok (.aload_n 0, 1) := by decide +kernel
theorem dX2_van_36 : decode cX2_van 36 = .ok (.getfield 53, 3) := by decide +kernel
theorem dX2_van_39 : decode cX2_van 39 = .ok (.bipush 8, 2) := by decide +kernel
theorem dX2_van_41 : decode cX2_van 41 = .ok (.iload_n 1, 1) := by decide +kernel
theorem dX2_van_42 : decode cX2_van 42 = .ok (.imul, 1) := by decide +kernel
theorem dX2_van_43 : decode cX2_van 43 = .ok (.iload_n 2, 1) := by decide +kernel
theorem dX2_van_44 : decode cX2_van 44 = .ok (.iadd, 1) := by decide +kernel
theorem dX2_van_45 : decode cX2_van 45 = .ok (.iaload, 1) := by decide +kernel
theorem dX2_van_46 : decode cX2_van 46 = .ok (.invokestatic 120, 3) := by decide +kernel
theorem dX2_van_49 : decode cX2_van 49 = .ok (.goto 5, 3) := by decide +kernel
theorem dX2_van_52 : decode cX2_van 52 = .ok (.bipush (-5), 2) := by decide +kernel
theorem dX2_van_54 : decode cX2_van 54 = .ok (.ireturn, 1) := by decide +kernel
set_option maxRecDepth 20000 in
theorem ggX2_count_X2_heldBy : GoodIn wsX2_count wsX2_heldBy := goodIn_ca (goodIn_r _ [12, 13, 17, 18, 19, 20, 21, 22, 23, 24, 25, 26, 27, 28, 29, 30, 31, 32, 33] (by decide +kernel) (by decide +kernel)) (goodIn_sub (fun _ h => List.mem_cons_of_mem _ (List.mem_append_right _ h)) (by decide +kernel))
set_option maxRecDepth 20000 in
theorem gX2_count_X2_heldBy : GoodIn wsX2_count (wsV RX2 123 RX2 yX2_heldBy wsX2_heldBy) := goodIn_app (goodIn_of _ (by decide +kernel)) ggX2_count_X2_heldBy
set_option maxRecDepth 20000 in
theorem ggX2_count_X2_in : GoodIn wsX2_count wsX2_in := goodIn_r _ [16] (by decide +kernel) (by decide +kernel)
set_option maxRecDepth 20000 in
theorem gX2_count_X2_in : GoodIn wsX2_count (va_wsS RX2 66 yX2_in wsX2_in) := goodIn_app (goodIn_of _ (by decide +kernel)) ggX2_count_X2_in
theorem dX2_count_0 : decode cX2_count 0 = .ok (.aload_n 0, 1) := by decide +kernel
theorem dX2_count_1 : decode cX2_count 1 = .ok (.iconst 0, 1) := by decide +kernel
theorem dX2_count_2 : decode cX2_count 2 = .ok (.putfield 59, 3) := by decide +kernel
theorem dX2_count_5 : decode cX2_count 5 = .ok (.iconst 0, 1) := by decide +kernel
theorem dX2_count_6 : decode cX2_count 6 = .ok (.istore_n 2, 1) := by decide +kernel
theorem dX2_count_7 : decode cX2_count 7 = .ok (.iconst 0, 1) := by decide +kernel
theorem dX2_count_8 : decode cX2_count 8 = .ok (.istore_n 3, 1) := by decide +kernel
theorem dX2_count_9 : decode cX2_count 9 = .ok (.iconst 0, 1) := by decide +kernel
theorem dX2_count_10 : decode cX2_count 10 = .ok (.istore 4, 2) := by decide +kernel
theorem dX2_count_12 : decode cX2_count 12 = .ok (.iload 4, 2) := by decide +kernel
theorem dX2_count_14 : decode cX2_count 14 = .ok (.aload_n 0, 1) := by decide +kernel
theorem dX2_count_15 : decode cX2_count 15 = .ok (.getfield 63, 3) := by decide +kernel
theorem dX2_count_18 : decode cX2_count 18 = .ok (.if_icmp .ge 58, 3) := by decide +kernel
theorem dX2_count_21 : decode cX2_count 21 = .ok (.iload_n 2, 1) := by decide +kernel
theorem dX2_count_22 : decode cX2_count 22 = .ok (.aload_n 0, 1) := by decide +kernel
theorem dX2_count_23 : decode cX2_count 23 = .ok (.getfield 7, 3) := by decide +kernel
theorem dX2_count_26 : decode cX2_count 26 = .ok (.iload 4, 2) := by decide +kernel
theorem dX2_count_28 : decode cX2_count 28 = .ok (.iaload, 1) := by decide +kernel
theorem dX2_count_29 : decode cX2_count 29 = .ok (.bipush 18, 2) := by decide +kernel
theorem dX2_count_31 : decode cX2_count 31 = .ok (.if_icmp .ne 7, 3) := by decide +kernel
theorem dX2_count_34 : decode cX2_count 34 = .ok (.iconst 1, 1) := by decide +kernel
theorem dX2_count_35 : decode cX2_count 35 = .ok (.goto 4, 3) := by decide +kernel
theorem dX2_count_38 : decode cX2_count 38 = .ok (.iconst 0, 1) := by decide +kernel
theorem dX2_count_39 : decode cX2_count 39 = .ok (.iadd, 1) := by decide +kernel
theorem dX2_count_40 : decode cX2_count 40 = .ok (.istore_n 2, 1) := by decide +kernel
theorem dX2_count_41 : decode cX2_count 41 = .ok (.iload_n 3, 1) := by decide +kernel
theorem dX2_count_42 : decode cX2_count 42 = .ok (.aload_n 0, 1) := by decide +kernel
theorem dX2_count_43 : decode cX2_count 43 = .ok (.getfield 7, 3) := by decide +kernel
theorem dX2_count_46 : decode cX2_count 46 = .ok (.iload 4, 2) := by decide +kernel
theorem dX2_count_48 : decode cX2_count 48 = .ok (.iaload, 1) := by decide +kernel
theorem dX2_count_49 : decode cX2_count 49 = .ok (.bipush 18, 2) := by decide +kernel
theorem dX2_count_51 : decode cX2_count 51 = .ok (.if_icmp .ne 16, 3) := by decide +kernel
theorem dX2_count_54 : decode cX2_count 54 = .ok (.aload_n 0, 1) := by decide +kernel
theorem dX2_count_55 : decode cX2_count 55 = .ok (.iload 4, 2) := by decide +kernel
theorem dX2_count_57 : decode cX2_count 57 = .ok (.invokevirtual 123, 3) := by decide +kernel
theorem dX2_count_60 : decode cX2_count 60 = .ok (.ifCond .lt 7, 3) := by decide +kernel
theorem dX2_count_63 : decode cX2_count 63 = .ok (.iconst 1, 1) := by decide +kernel
theorem dX2_count_64 : decode cX2_count 64 = .ok (.goto 4, 3) := by decide +kernel
theorem dX2_count_67 : decode cX2_count 67 = .ok (.iconst 0, 1) := by decide +kernel
theorem dX2_count_68 : decode cX2_count 68 = .ok (.iadd, 1) := by decide +kernel
theorem dX2_count_69 : decode cX2_count 69 = .ok (.istore_n 3, 1) := by decide +kernel
theorem dX2_count_70 : decode cX2_count 70 = .ok (.iinc 4 1, 3) := by decide +kernel
theorem dX2_count_73 : decode cX2_count 73 = .ok (.goto (-61), 3) := by decide +kernel
theorem dX2_count_76 : decode cX2_count 76 = .ok (.iload_n 1, 1) := by decide +kernel
theorem dX2_count_77 : decode cX2_count 77 = .ok (.tableswitch 45 0 3 #[31, 36, 38, 40], 31) := by decide +kernel
theorem dX2_count_108 : decode cX2_count 108 = .ok (.aload_n 0, 1) := by decide +kernel
theorem dX2_count_109 : decode cX2_count 109 = .ok (.getfield 63, 3) := by decide +kernel
theorem dX2_count_112 : decode cX2_count 112 = .ok (.ireturn, 1) := by decide +kernel
theorem dX2_count_113 : decode cX2_count 113 = .ok (.iload_n 2, 1) := by decide +kernel
theorem dX2_count_114 : decode cX2_count 114 = .ok (.ireturn, 1) := by decide +kernel
theorem dX2_count_115 : decode cX2_count 115 = .ok (.iload_n 3, 1) := by decide +kernel
theorem dX2_count_116 : decode cX2_count 116 = .ok (.ireturn, 1) := by decide +kernel
theorem dX2_count_117 : decode cX2_count 117 = .ok (.aload_n 0, 1) := by decide +kernel
theorem dX2_count_118 : decode cX2_count 118 = .ok (.getfield 74, 3) := by decide +kernel
theorem dX2_count_121 : decode cX2_count 121 = .ok (.ireturn, 1) := by decide +kernel
theorem dX2_count_122 : decode cX2_count 122 = .ok (.iload_n 1, 1) := by decide +kernel
theorem dX2_count_123 : decode cX2_count 123 = .ok (.i2l, 1) := by decide +kernel
theorem dX2_count_124 : decode cX2_count 124 = .ok (.ldc2_w 77, 3) := by decide +kernel
theorem dX2_count_127 : decode cX2_count 127 = .ok (.ldc2_w 141, 3) := by decide +kernel
theorem dX2_count_130 : decode cX2_count 130 = .ok (.invokestatic 66, 3) := by decide +kernel
theorem dX2_count_133 : decode cX2_count 133 = .ok (.ifCond .eq 14, 3) := by decide +kernel
theorem dX2_count_136 : decode cX2_count 136 = .ok (.aload_n 0, 1) := by decide +kernel
theorem dX2_count_137 : decode cX2_count 137 = .ok (.getfield 56, 3) := by decide +kernel
theorem dX2_count_140 : decode cX2_count 140 = .ok (.iload_n 1, 1) := by decide +kernel
theorem dX2_count_141 : decode cX2_count 141 = .ok (.iconst 3, 1) := by decide +kernel
theorem dX2_count_142 : decode cX2_count 142 = .ok (.isub, 1) := by decide +kernel
theorem dX2_count_143 : decode cX2_count 143 = .ok (.iaload, 1) := by decide +kernel
theorem dX2_count_144 : decode cX2_count 144 = .ok (.goto 5, 3) := by decide +kernel
theorem dX2_count_147 : decode cX2_count 147 = .ok (.bipush (-2), 2) := by decide +kernel
theorem dX2_count_149 : decode cX2_count 149 = .ok (.ireturn, 1) := by decide +kernel
theorem dX2_clear_0 : decode cX2_clear 0 = .ok (.aload_n 0, 1) := by decide +kernel
theorem dX2_clear_1 : decode cX2_clear 1 = .ok (.iconst 0, 1) := by decide +kernel
theorem dX2_clear_2 : decode cX2_clear 2 = .ok (.putfield 59, 3) := by decide +kernel
theorem dX2_clear_5 : decode cX2_clear 5 = .ok (.aload_n 0, 1) := by decide +kernel
theorem dX2_clear_6 : decode cX2_clear 6 = .ok (.getfield 63, 3) := by decide +kernel
theorem dX2_clear_9 : decode cX2_clear 9 = .ok (.istore_n 1, 1) := by decide +kernel
theorem dX2_clear_10 : decode cX2_clear 10 = .ok (.aload_n 0, 1) := by decide +kernel
theorem dX2_clear_11 : decode cX2_clear 11 = .ok (.iconst 0, 1) := by decide +kernel
theorem dX2_clear_12 : decode cX2_clear 12 = .ok (.putfield 63, 3) := by decide +kernel
theorem dX2_clear_15 : decode cX2_clear 15 = .ok (.aload_n 0, 1) := by decide +kernel
theorem dX2_clear_16 : decode cX2_clear 16 = .ok (.iconst 0, 1) := by decide +kernel
theorem dX2_clear_17 : decode cX2_clear 17 = .ok (.putfield 74, 3) := by decide +kernel
theorem dX2_clear_20 : decode cX2_clear 20 = .ok (.iconst 0, 1) := by decide +kernel
theorem dX2_clear_21 : decode cX2_clear 21 = .ok (.istore_n 2, 1) := by decide +kernel
theorem dX2_clear_22 : decode cX2_clear 22 = .ok (.iload_n 2, 1) := by decide +kernel
theorem dX2_clear_23 : decode cX2_clear 23 = .ok (.bipush 6, 2) := by decide +kernel
theorem dX2_clear_25 : decode cX2_clear 25 = .ok (.if_icmp .ge 16, 3) := by decide +kernel
theorem dX2_clear_28 : decode cX2_clear 28 = .ok (.aload_n 0, 1) := by decide +kernel
theorem dX2_clear_29 : decode cX2_clear 29 = .ok (.getfield 56, 3) := by decide +kernel
theorem dX2_clear_32 : decode cX2_clear 32 = .ok (.iload_n 2, 1) := by decide +kernel
theorem dX2_clear_33 : decode cX2_clear 33 = .ok (.iconst 0, 1) := by decide +kernel
theorem dX2_clear_34 : decode cX2_clear 34 = .ok (.iastore, 1) := by decide +kernel
theorem dX2_clear_35 : decode cX2_clear 35 = .ok (.iinc 2 1, 3) := by decide +kernel
theorem dX2_clear_38 : decode cX2_clear 38 = .ok (.goto (-16), 3) := by decide +kernel
theorem dX2_clear_41 : decode cX2_clear 41 = .ok (.iload_n 1, 1) := by decide +kernel
theorem dX2_clear_42 : decode cX2_clear 42 = .ok (.ireturn, 1) := by decide +kernel
