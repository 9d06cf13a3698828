set_option maxRecDepth 20000 in
theorem ggX7_comparison_X7_fieldOf : GoodIn wsX7_comparison wsX7_fieldOf := goodIn_r _ [13] (by decide +kernel) (by decide +kernel)
set_option maxRecDepth 20000 in
theorem gX7_comparison_X7_fieldOf : GoodIn wsX7_comparison (va_wsS RX7 173 yX7_fieldOf wsX7_fieldOf) := goodIn_app (goodIn_of _ (by decide +kernel)) ggX7_comparison_X7_fieldOf
set_option maxRecDepth 20000 in
theorem ggX7_comparison_X7_number : GoodIn wsX7_comparison wsX7_number := goodIn_r _ [17, 18, 19, 3, 4, 5, 6, 7, 8, 9, 10, 20, 21, 22, 30, 31, 32, 33, 34, 35, 36, 37, 38, 39, 40, 41, 42, 43, 44, 45, 46, 47, 48] (by decide +kernel) (by decide +kernel)
set_option maxRecDepth 20000 in
theorem gX7_comparison_X7_number : GoodIn wsX7_comparison (wsV RX7 176 RX7 yX7_number wsX7_number) := goodIn_app (goodIn_of _ (by decide +kernel)) ggX7_comparison_X7_number
set_option maxRecDepth 20000 in
theorem ggX7_comparison_X7_puts : GoodIn wsX7_comparison wsX7_puts := goodIn_r _ [26, 27, 28, 29, 30, 31, 32, 33, 34, 35, 36, 37, 38, 39, 40, 41, 42, 43, 44, 45, 46, 47, 48] (by decide +kernel) (by decide +kernel)
set_option maxRecDepth 20000 in
theorem gX7_comparison_X7_puts : GoodIn wsX7_comparison (wsV RX7 169 RX7 yX7_puts wsX7_puts) := goodIn_app (goodIn_of _ (by decide +kernel)) ggX7_comparison_X7_puts
theorem dX7_comparison_0 : decode cX7_comparison 0 = .ok (.aload_n 0, 1) := by decide +kernel
theorem dX7_comparison_1 : decode cX7_comparison 1 = .ok (.invokevirtual 158, 3) := by decide +kernel
theorem dX7_comparison_4 : decode cX7_comparison 4 = .ok (.bipush 126, 2) := by decide +kernel
theorem dX7_comparison_6 : decode cX7_comparison 6 = .ok (.if_icmp .eq 12, 3) := by decide +kernel
theorem dX7_comparison_9 : decode cX7_comparison 9 = .ok (.aload_n 0, 1) := by decide +kernel
theorem dX7_comparison_10 : decode cX7_comparison 10 = .ok (.invokevirtual 158, 3) := by decide +kernel
theorem dX7_comparison_13 : decode cX7_comparison 13 = .ok (.bipush 40, 2) := by decide +kernel
theorem dX7_comparison_15 : decode cX7_comparison 15 = .ok (.if_icmp .ne 39, 3) := by decide +kernel
theorem dX7_comparison_18 : decode cX7_comparison 18 = .ok (.aload_n 0, 1) := by decide +kernel
theorem dX7_comparison_19 : decode cX7_comparison 19 = .ok (.getfield 35, 3) := by decide +kernel
theorem dX7_comparison_22 : decode cX7_comparison 22 = .ok (.aload_n 0, 1) := by decide +kernel
theorem dX7_comparison_23 : decode cX7_comparison 23 = .ok (.getfield 166, 3) := by decide +kernel
theorem dX7_comparison_26 : decode cX7_comparison 26 = .ok (.aload_n 0, 1) := by decide +kernel
theorem dX7_comparison_27 : decode cX7_comparison 27 = .ok (.invokevirtual 158, 3) := by decide +kernel
theorem dX7_comparison_30 : decode cX7_comparison 30 = .ok (.iastore, 1) := by decide +kernel
theorem dX7_comparison_31 : decode cX7_comparison 31 = .ok (.aload_n 0, 1) := by decide +kernel
theorem dX7_comparison_32 : decode cX7_comparison 32 = .ok (.dup, 1) := by decide +kernel
theorem dX7_comparison_33 : decode cX7_comparison 33 = .ok (.getfield 166, 3) := by decide +kernel
theorem dX7_comparison_36 : decode cX7_comparison 36 = .ok (.iconst 1, 1) := by decide +kernel
theorem dX7_comparison_37 : decode cX7_comparison 37 = .ok (.iadd, 1) := by decide +kernel
theorem dX7_comparison_38 : decode cX7_comparison 38 = .ok (.putfield 166, 3) := by decide +kernel
theorem dX7_comparison_41 : decode cX7_comparison 41 = .ok (.aload_n 0, 1) := by decide +kernel
theorem dX7_comparison_42 : decode cX7_comparison 42 = .ok (.dup, 1) := by decide +kernel
theorem dX7_comparison_43 : decode cX7_comparison 43 = .ok (.getfield 149, 3) := by decide +kernel
theorem dX7_comparison_46 : decode cX7_comparison 46 = .ok (.iconst 1, 1) := by decide +kernel
theorem dX7_comparison_47 : decode cX7_comparison 47 = .ok (.iadd, 1) := by decide +kernel
theorem dX7_comparison_48 : decode cX7_comparison 48 = .ok (.putfield 149, 3) := by decide +kernel
theorem dX7_comparison_51 : decode cX7_comparison 51 = .ok (.goto (-51), 3) := by decide +kernel
theorem dX7_comparison_54 : decode cX7_comparison 54 = .ok (.aload_n 0, 1) := by decide +kernel
theorem dX7_comparison_55 : decode cX7_comparison 55 = .ok (.invokevirtual 158, 3) := by decide +kernel
theorem dX7_comparison_58 : decode cX7_comparison 58 = .ok (.invokestatic 173, 3) := by decide +kernel
theorem dX7_comparison_61 : decode cX7_comparison 61 = .ok (.istore_n 1, 1) := by decide +kernel
theorem dX7_comparison_62 : decode cX7_comparison 62 = .ok (.iload_n 1, 1) := by decide +kernel
theorem dX7_comparison_63 : decode cX7_comparison 63 = .ok (.ifCond .ge 5, 3) := by decide +kernel
theorem dX7_comparison_66 : decode cX7_comparison 66 = .ok (.iconst 0, 1) := by decide +kernel
theorem dX7_comparison_67 : decode cX7_comparison 67 = .ok (.ireturn, 1) := by decide +kernel
theorem dX7_comparison_68 : decode cX7_comparison 68 = .ok (.aload_n 0, 1) := by decide +kernel
theorem dX7_comparison_69 : decode cX7_comparison 69 = .ok (.dup, 1) := by decide +kernel
theorem dX7_comparison_70 : decode cX7_comparison 70 = .ok (.getfield 149, 3) := by decide +kernel
theorem dX7_comparison_73 : decode cX7_comparison 73 = .ok (.iconst 1, 1) := by decide +kernel
theorem dX7_comparison_74 : decode cX7_comparison 74 = .ok (.iadd, 1) := by decide +kernel
theorem dX7_comparison_75 : decode cX7_comparison 75 = .ok (.putfield 149, 3) := by decide +kernel
theorem dX7_comparison_78 : decode cX7_comparison 78 = .ok (.aload_n 0, 1) := by decide +kernel
theorem dX7_comparison_79 : decode cX7_comparison 79 = .ok (.invokevirtual 158, 3) := by decide +kernel
theorem dX7_comparison_82 : decode cX7_comparison 82 = .ok (.istore_n 2, 1) := by decide +kernel
theorem dX7_comparison_83 : decode cX7_comparison 83 = .ok (.iload_n 2, 1) := by decide +kernel
theorem dX7_comparison_84 : decode cX7_comparison 84 = .ok (.bipush 60, 2) := by decide +kernel
theorem dX7_comparison_86 : decode cX7_comparison 86 = .ok (.if_icmp .eq 17, 3) := by decide +kernel
theorem dX7_comparison_89 : decode cX7_comparison 89 = .ok (.iload_n 2, 1) := by decide +kernel
theorem dX7_comparison_90 : decode cX7_comparison 90 = .ok (.bipush 61, 2) := by decide +kernel
theorem dX7_comparison_92 : decode cX7_comparison 92 = .ok (.if_icmp .eq 11, 3) := by decide +kernel
theorem dX7_comparison_95 : decode cX7_comparison 95 = .ok (.iload_n 2, 1) := by decide +kernel
theorem dX7_comparison_96 : decode cX7_comparison 96 = .ok (.bipush 62, 2) := by decide +kernel
theorem dX7_comparison_98 : decode cX7_comparison 98 = .ok (.if_icmp .eq 5, 3) := by decide +kernel
theorem dX7_comparison_101 : decode cX7_comparison 101 = .ok (.iconst 0, 1) := by decide +kernel
theorem dX7_comparison_102 : decode cX7_comparison 102 = .ok (.ireturn, 1) := by decide +kernel
theorem dX7_comparison_103 : decode cX7_comparison 103 = .ok (.aload_n 0, 1) := by decide +kernel
theorem dX7_comparison_104 : decode cX7_comparison 104 = .ok (.dup, 1) := by decide +kernel
theorem dX7_comparison_105 : decode cX7_comparison 105 = .ok (.getfield 149, 3) := by decide +kernel
theorem dX7_comparison_108 : decode cX7_comparison 108 = .ok (.iconst 1, 1) := by decide +kernel
theorem dX7_comparison_109 : decode cX7_comparison 109 = .ok (.iadd, 1) := by decide +kernel
theorem dX7_comparison_110 : decode cX7_comparison 110 = .ok (.putfield 149, 3) := by decide +kernel
theorem dX7_comparison_113 : decode cX7_comparison 113 = .ok (.aload_n 0, 1) := by decide +kernel
theorem dX7_comparison_114 : decode cX7_comparison 114 = .ok (.invokevirtual 176, 3) := by decide +kernel
theorem dX7_comparison_117 : decode cX7_comparison 117 = .ok (.istore_n 3, 1) := by decide +kernel
theorem dX7_comparison_118 : decode cX7_comparison 118 = .ok (.iload_n 3, 1) := by decide +kernel
theorem dX7_comparison_119 : decode cX7_comparison 119 = .ok (.ifCond .ge 5, 3) := by decide +kernel
theorem dX7_comparison_122 : decode cX7_comparison 122 = .ok (.iconst 0, 1) := by decide +kernel
theorem dX7_comparison_123 : decode cX7_comparison 123 = .ok (.ireturn, 1) := by decide +kernel
theorem dX7_comparison_124 : decode cX7_comparison 124 = .ok (.aload_n 0, 1) := by decide +kernel
theorem dX7_comparison_125 : decode cX7_comparison 125 = .ok (.iload_n 2, 1) := by decide +kernel
theorem dX7_comparison_126 : decode cX7_comparison 126 = .ok (.iload_n 1, 1) := by decide +kernel
theorem dX7_comparison_127 : decode cX7_comparison 127 = .ok (.iload_n 3, 1) := by decide +kernel
theorem dX7_comparison_128 : decode cX7_comparison 128 = .ok (.invokevirtual 169, 3) := by decide +kernel
theorem dX7_comparison_131 : decode cX7_comparison 131 = .ok (.iconst 1, 1) := by decide +kernel
theorem dX7_comparison_132 : decode cX7_comparison 132 = .ok (.ireturn, 1) := by decide +kernel
theorem dX7_opens_0 : decode cX7_opens 0 = .ok (.iconst 0, 1) := by decide +kernel
theorem dX7_opens_1 : decode cX7_opens 1 = .ok (.istore_n 1, 1) := by decide +kernel
theorem dX7_opens_2 : decode cX7_opens 2 = .ok (.iconst 0, 1) := by decide +kernel
theorem dX7_opens_3 : decode cX7_opens 3 = .ok (.istore_n 2, 1) := by decide +kernel
theorem dX7_opens_4 : decode cX7_opens 4 = .ok (.iload_n 2, 1) := by decide +kernel
theorem dX7_opens_5 : decode cX7_opens 5 = .ok (.aload_n 0, 1) := by decide +kernel
theorem dX7_opens_6 : decode cX7_opens 6 = .ok (.getfield 166, 3) := by decide +kernel
theorem dX7_opens_9 : decode cX7_opens 9 = .ok (.if_icmp .ge 28, 3) := by decide +kernel
theorem dX7_opens_12 : decode cX7_opens 12 = .ok (.iload_n 1, 1) := by decide +kernel
theorem dX7_opens_13 : decode cX7_opens 13 = .ok (.aload_n 0, 1) := by decide +kernel
theorem dX7_opens_14 : decode cX7_opens 14 = .ok (.getfield 35, 3) := by decide +kernel
theorem dX7_opens_17 : decode cX7_opens 17 = .ok (.iload_n 2, 1) := by decide +kernel
theorem dX7_opens_18 : decode cX7_opens 18 = .ok (.iaload, 1) := by decide +kernel
theorem dX7_opens_19 : decode cX7_opens 19 = .ok (.bipush 40, 2) := by decide +kernel
theorem dX7_opens_21 : decode cX7_opens 21 = .ok (.if_icmp .ne 7, 3) := by decide +kernel
theorem dX7_opens_24 : decode cX7_opens 24 = .ok (.iconst 1, 1) := by decide +kernel
theorem dX7_opens_25 : decode cX7_opens 25 = .ok (.goto 4, 3) := by decide +kernel
theorem dX7_opens_28 : decode cX7_opens 28 = .ok (.iconst 0, 1) := by decide +kernel
theorem dX7_opens_29 : decode cX7_opens 29 = .ok (.iadd, 1) := by decide +kernel
theorem dX7_opens_30 : decode cX7_opens 30 = .ok (.istore_n 1, 1) := by decide +kernel
theorem dX7_opens_31 : decode cX7_opens 31 = .ok (.iinc 2 1, 3) := by decide +kernel
theorem dX7_opens_34 : decode cX7_opens 34 = .ok (.goto (-30), 3) := by decide +kernel
theorem dX7_opens_37 : decode cX7_opens 37 = .ok (.iload_n 1, 1) := by decide +kernel
theorem dX7_opens_38 : decode cX7_opens 38 = .ok (.ireturn, 1) := by decide +kernel
set_option maxRecDepth 20000 in
theorem ggX7_settles_X7_joins : GoodIn wsX7_settles wsX7_joins := goodIn_r _ [7, 1, 2, 8, 9, 10, 6, 11, 12, 13, 14, 15, 16, 17, 18, 19, 20, 21, 22, 23, 24, 25, 26, 27, 28, 29, 30, 31, 32, 33] (by decide +kernel) (by decide +kernel)
set_option maxRecDepth 20000 in
theorem gX7_settles_X7_joins : GoodIn wsX7_settles (wsV RX7 179 RX7 yX7_joins wsX7_joins) := goodIn_app (goodIn_of _ (by decide +kernel)) ggX7_settles_X7_joins
theorem dX7_settles_0 : decode cX7_settles 0 = .ok (.aload_n 0, 1) := by decide +kernel
theorem dX7_settles_1 : decode cX7_settles 1 = .ok (.getfield 166, 3) := by decide +kernel
theorem dX7_settles_4 : decode cX7_settles 4 = .ok (.ifCond .le 67, 3) := by decide +kernel
theorem dX7_settles_7 : decode cX7_settles 7 = .ok (.aload_n 0, 1) := by decide +kernel
theorem dX7_settles_8 : decode cX7_settles 8 = .ok (.getfield 35, 3) := by decide +kernel
theorem dX7_settles_11 : decode cX7_settles 11 = .ok (.aload_n 0, 1) := by decide +kernel
theorem dX7_settles_12 : decode cX7_settles 12 = .ok (.getfield 166, 3) := by decide +kernel
theorem dX7_settles_15 : decode cX7_settles 15 = .ok (.iconst 1, 1) := by decide +kernel
theorem dX7_settles_16 : decode cX7_settles 16 = .ok (.isub, 1) := by decide +kernel
theorem dX7_settles_17 : decode cX7_settles 17 = .ok (.iaload, 1) := by decide +kernel
theorem dX7_settles_18 : decode cX7_settles 18 = .ok (.bipush 126, 2) := by decide +kernel
theorem dX7_settles_20 : decode cX7_settles 20 = .ok (.if_icmp .eq 44, 3) := by decide +kernel
theorem dX7_settles_23 : decode cX7_settles 23 = .ok (.aload_n 0, 1) := by decide +kernel
theorem dX7_settles_24 : decode cX7_settles 24 = .ok (.getfield 35, 3) := by decide +kernel
theorem dX7_settles_27 : decode cX7_settles 27 = .ok (.aload_n 0, 1) := by decide +kernel
theorem dX7_settles_28 : decode cX7_settles 28 = .ok (.getfield 166, 3) := by decide +kernel
theorem dX7_settles_31 : decode cX7_settles 31 = .ok (.iconst 1, 1) := by decide +kernel
theorem dX7_settles_32 : decode cX7_settles 32 = .ok (.isub, 1) := by decide +kernel
theorem dX7_settles_33 : decode cX7_settles 33 = .ok (.iaload, 1) := by decide +kernel
theorem dX7_settles_34 : decode cX7_settles 34 = .ok (.bipush 38, 2) := by decide +kernel
theorem dX7_settles_36 : decode cX7_settles 36 = .ok (.if_icmp .ne 7, 3) := by decide +kernel
theorem dX7_settles_39 : decode cX7_settles 39 = .ok (.iload_n 1, 1) := by decide +kernel
theorem dX7_settles_40 : decode cX7_settles 40 = .ok (.ifCond .gt 24, 3) := by decide +kernel
theorem dX7_settles_43 : decode cX7_settles 43 = .ok (.aload_n 0, 1) := by decide +kernel
theorem dX7_settles_44 : decode cX7_settles 44 = .ok (.getfield 35, 3) := by decide +kernel
theorem dX7_settles_47 : decode cX7_settles 47 = .ok (.aload_n 0, 1) := by decide +kernel
theorem dX7_settles_48 : decode cX7_settles 48 = .ok (.getfield 166, 3) := by decide +kernel
theorem dX7_settles_51 : decode cX7_settles 51 = .ok (.iconst 1, 1) := by decide +kernel
theorem dX7_settles_52 : decode cX7_settles 52 = .ok (.isub, 1) := by decide +kernel
theorem dX7_settles_53 : decode cX7_settles 53 = .ok (.iaload, 1) := by decide +kernel
theorem dX7_settles_54 : decode cX7_settles 54 = .ok (.bipush 124, 2) := by decide +kernel
theorem dX7_settles_56 : decode cX7_settles 56 = .ok (.if_icmp .ne 15, 3) := by decide +kernel
theorem dX7_settles_59 : decode cX7_settles 59 = .ok (.iload_n 1, 1) := by decide +kernel
theorem dX7_settles_60 : decode cX7_settles 60 = .ok (.iconst 1, 1) := by decide +kernel
theorem dX7_settles_61 : decode cX7_settles 61 = .ok (.if_icmp .le 10, 3) := by decide +kernel
theorem dX7_settles_64 : decode cX7_settles 64 = .ok (.aload_n 0, 1) := by decide +kernel
theorem dX7_settles_65 : decode cX7_settles 65 = .ok (.invokevirtual 179, 3) := by decide +kernel
theorem dX7_settles_68 : decode cX7_settles 68 = .ok (.goto (-68), 3) := by decide +kernel
theorem dX7_settles_71 : decode cX7_settles 71 = .ok (.return_, 1) := by decide +kernel
set_option maxRecDepth 20000 in
theorem ggX7_readsRule_X7_comparison : GoodIn wsX7_readsRule wsX7_comparison := goodIn_r _ [13, 5, 3, 4, 14, 15, 16, 12, 17, 8, 18, 19, 20, 21, 22, 23, 24, 25, 26, 27, 28, 29, 30, 31, 32, 33, 34, 1, 2, 35, 48, 49, 50, 51, 52, 53, 54, 55, 56, 57, 58, 59, 60, 61, 62, 63, 64, 65, 66] (by decide +kernel) (by decide +kernel)
set_option maxRecDepth 20000 in
theorem gX7_readsRule_X7_comparison : GoodIn wsX7_readsRule (wsV RX7 182 RX7 yX7_comparison wsX7_comparison) := goodIn_app (goodIn_of _ (by decide +kernel)) ggX7_readsRule_X7_comparison
set_option maxRecDepth 20000 in
theorem ggX7_readsRule_X7_settles : GoodIn wsX7_readsRule wsX7_settles := goodIn_r _ [39, 3, 5, 40, 41, 42, 12, 43, 31, 32, 33, 34, 1, 2, 35, 48, 49, 50, 51, 52, 53, 54, 55, 56, 57, 58, 59, 60, 61, 62, 63, 64, 65, 66] (by decide +kernel) (by decide +kernel)
set_option maxRecDepth 20000 in
theorem gX7_readsRule_X7_settles : GoodIn wsX7_readsRule (wsV RX7 185 RX7 yX7_settles wsX7_settles) := goodIn_app (goodIn_of _ (by decide +kernel)) ggX7_readsRule_X7_settles
set_option maxRecDepth 20000 in
theorem ggX7_readsRule_X7_sign : GoodIn wsX7_readsRule wsX7_sign := goodIn_r _ [17, 4, 8, 18, 48, 49, 50, 51, 52, 53, 54, 55, 56, 57, 58, 59, 60, 61, 62, 63, 64, 65, 66] (by decide +kernel) (by decide +kernel)
set_option maxRecDepth 20000 in
theorem gX7_readsRule_X7_sign : GoodIn wsX7_readsRule (wsV RX7 158 RX7 yX7_sign wsX7_sign) := goodIn_app (goodIn_of _ (by decide +kernel)) ggX7_readsRule_X7_sign
set_option maxRecDepth 20000 in
theorem ggX7_readsRule_X7_opens : GoodIn wsX7_readsRule wsX7_opens := goodIn_r _ [47, 3, 5, 48, 49, 50, 51, 52, 53, 54, 55, 56, 57, 58, 59, 60, 61, 62, 63, 64, 65, 66] (by decide +kernel) (by decide +kernel)
set_option maxRecDepth 20000 in
theorem gX7_readsRule_X7_opens : GoodIn wsX7_readsRule (wsV RX7 189 RX7 yX7_opens wsX7_opens) := goodIn_app (goodIn_of _ (by decide +kernel)) ggX7_readsRule_X7_opens
set_option maxRecDepth 20000 in
theorem ggX7_readsRule_X7_number : GoodIn wsX7_readsRule wsX7_number := goodIn_r _ [25, 26, 27, 4, 14, 15, 16, 12, 17, 8, 18, 28, 29, 30, 48, 49, 50, 51, 52, 53, 54, 55, 56, 57, 58, 59, 60, 61, 62, 63, 64, 65, 66] (by decide +kernel) (by decide +kernel)
set_option maxRecDepth 20000 in
theorem gX7_readsRule_X7_number : GoodIn wsX7_readsRule (wsV RX7 176 RX7 yX7_number wsX7_number) := goodIn_app (goodIn_of _ (by decide +kernel)) ggX7_readsRule_X7_number
theorem dX7_readsRule_0 : decode cX7_readsRule 0 = .ok (.aload_n 0, 1) := by decide +kernel
theorem dX7_readsRule_1 : decode cX7_readsRule 1 = .ok (.iload_n 1, 1) := by decide +kernel
theorem dX7_readsRule_2 : decode cX7_readsRule 2 = .ok (.putfield 155, 3) := by decide +kernel
theorem dX7_readsRule_5 : decode cX7_readsRule 5 = .ok (.aload_n 0, 1) := by decide +kernel
theorem dX7_readsRule_6 : decode cX7_readsRule 6 = .ok (.getfield 26, 3) := by decide +kernel
theorem dX7_readsRule_9 : decode cX7_readsRule 9 = .ok (.iload_n 1, 1) := by decide +kernel
theorem dX7_readsRule_10 : decode cX7_readsRule 10 = .ok (.iconst 0, 1) := by decide +kernel
theorem dX7_readsRule_11 : decode cX7_readsRule 11 = .ok (.iastore, 1) := by decide +kernel
theorem dX7_readsRule_12 : decode cX7_readsRule 12 = .ok (.aload_n 0, 1) := by decide +kernel
theorem dX7_readsRule_13 : decode cX7_readsRule 13 = .ok (.iconst 0, 1) := by decide +kernel
theorem dX7_readsRule_14 : decode cX7_readsRule 14 = .ok (.putfield 166, 3) := by decide +kernel
theorem dX7_readsRule_17 : decode cX7_readsRule 17 = .ok (.aload_n 0, 1) := by decide +kernel
theorem dX7_readsRule_18 : decode cX7_readsRule 18 = .ok (.iconst 0, 1) := by decide +kernel
theorem dX7_readsRule_19 : decode cX7_readsRule 19 = .ok (.putfield 149, 3) := by decide +kernel
theorem dX7_readsRule_22 : decode cX7_readsRule 22 = .ok (.iconst 1, 1) := by decide +kernel
theorem dX7_readsRule_23 : decode cX7_readsRule 23 = .ok (.istore_n 2, 1) := by decide +kernel
theorem dX7_readsRule_24 : decode cX7_readsRule 24 = .ok (.iload_n 2, 1) := by decide +kernel
theorem dX7_readsRule_25 : decode cX7_readsRule 25 = .ok (.ifCond .eq 141, 3) := by decide +kernel
theorem dX7_readsRule_28 : decode cX7_readsRule 28 = .ok (.aload_n 0, 1) := by decide +kernel
theorem dX7_readsRule_29 : decode cX7_readsRule 29 = .ok (.invokevirtual 182, 3) := by decide +kernel
theorem dX7_readsRule_32 : decode cX7_readsRule 32 = .ok (.ifCond .ne 5, 3) := by decide +kernel
theorem dX7_readsRule_35 : decode cX7_readsRule 35 = .ok (.iconst 0, 1) := by decide +kernel
theorem dX7_readsRule_36 : decode cX7_readsRule 36 = .ok (.ireturn, 1) := by decide +kernel
theorem dX7_readsRule_37 : decode cX7_readsRule 37 = .ok (.aload_n 0, 1) := by decide +kernel
theorem dX7_readsRule_38 : decode cX7_readsRule 38 = .ok (.iconst 0, 1) := by decide +kernel
theorem dX7_readsRule_39 : decode cX7_readsRule 39 = .ok (.invokevirtual 185, 3) := by decide +kernel
theorem dX7_readsRule_42 : decode cX7_readsRule 42 = .ok (.aload_n 0, 1) := by decide +kernel
theorem dX7_readsRule_43 : decode cX7_readsRule 43 = .ok (.invokevirtual 158, 3) := by decide +kernel
theorem dX7_readsRule_46 : decode cX7_readsRule 46 = .ok (.bipush 41, 2) := by decide +kernel
theorem dX7_readsRule_48 : decode cX7_readsRule 48 = .ok (.if_icmp .ne 43, 3) := by decide +kernel
theorem dX7_readsRule_51 : decode cX7_readsRule 51 = .ok (.aload_n 0, 1) := by decide +kernel
theorem dX7_readsRule_52 : decode cX7_readsRule 52 = .ok (.invokevirtual 189, 3) := by decide +kernel
theorem dX7_readsRule_55 : decode cX7_readsRule 55 = .ok (.ifCond .le 36, 3) := by decide +kernel
theorem dX7_readsRule_58 : decode cX7_readsRule 58 = .ok (.aload_n 0, 1) := by decide +kernel
theorem dX7_readsRule_59 : decode cX7_readsRule 59 = .ok (.iconst 2, 1) := by decide +kernel
theorem dX7_readsRule_60 : decode cX7_readsRule 60 = .ok (.invokevirtual 185, 3) := by decide +kernel
theorem dX7_readsRule_63 : decode cX7_readsRule 63 = .ok (.aload_n 0, 1) := by decide +kernel
theorem dX7_readsRule_64 : decode cX7_readsRule 64 = .ok (.dup, 1) := by decide +kernel
theorem dX7_readsRule_65 : decode cX7_readsRule 65 = .ok (.getfield 166, 3) := by decide +kernel
theorem dX7_readsRule_68 : decode cX7_readsRule 68 = .ok (.iconst 1, 1) := by decide +kernel
theorem dX7_readsRule_69 : decode cX7_readsRule 69 = .ok (.isub, 1) := by decide +kernel
theorem dX7_readsRule_70 : decode cX7_readsRule 70 = .ok (.putfield 166, 3) := by decide +kernel
theorem dX7_readsRule_73 : decode cX7_readsRule 73 = .ok (.aload_n 0, 1) := by decide +kernel
theorem dX7_readsRule_74 : decode cX7_readsRule 74 = .ok (.dup, 1) := by decide +kernel
theorem dX7_readsRule_75 : decode cX7_readsRule 75 = .ok (.getfield 149, 3) := by decide +kernel
theorem dX7_readsRule_78 : decode cX7_readsRule 78 = .ok (.iconst 1, 1) := by decide +kernel
theorem dX7_readsRule_79 : decode cX7_readsRule 79 = .ok (.iadd, 1) := by decide +kernel
theorem dX7_readsRule_80 : decode cX7_readsRule 80 = .ok (.putfield 149, 3) := by decide +kernel
theorem dX7_readsRule_83 : decode cX7_readsRule 83 = .ok (.aload_n 0, 1) := by decide +kernel
theorem dX7_readsRule_84 : decode cX7_readsRule 84 = .ok (.iconst 0, 1) := by decide +kernel
theorem dX7_readsRule_85 : decode cX7_readsRule 85 = .ok (.invokevirtual 185, 3) := by decide +kernel
theorem dX7_readsRule_88 : decode cX7_readsRule 88 = .ok (.goto (-46), 3) := by decide +kernel
theorem dX7_readsRule_91 : decode cX7_readsRule 91 = .ok (.aload_n 0, 1) := by decide +kernel
theorem dX7_readsRule_92 : decode cX7_readsRule 92 = .ok (.invokevirtual 158, 3) := by decide +kernel
theorem dX7_readsRule_95 : decode cX7_readsRule 95 = .ok (.istore_n 3, 1) := by decide +kernel
theorem dX7_readsRule_96 : decode cX7_readsRule 96 = .ok (.iload_n 3, 1) := by decide +kernel
theorem dX7_readsRule_97 : decode cX7_readsRule 97 = .ok (.bipush 38, 2) := by decide +kernel
theorem dX7_readsRule_99 : decode cX7_readsRule 99 = .ok (.if_icmp .eq 9, 3) := by decide +kernel
theorem dX7_readsRule_102 : decode cX7_readsRule 102 = .ok (.iload_n 3, 1) := by decide +kernel
theorem dX7_readsRule_103 : decode cX7_readsRule 103 = .ok (.bipush 124, 2) := by decide +kernel
theorem dX7_readsRule_105 : decode cX7_readsRule 105 = .ok (.if_icmp .ne 7, 3) := by decide +kernel
theorem dX7_readsRule_108 : decode cX7_readsRule 108 = .ok (.iconst 1, 1) := by decide +kernel
theorem dX7_readsRule_109 : decode cX7_readsRule 109 = .ok (.goto 4, 3) := by decide +kernel
theorem dX7_readsRule_112 : decode cX7_readsRule 112 = .ok (.iconst 0, 1) := by decide +kernel
theorem dX7_readsRule_113 : decode cX7_readsRule 113 = .ok (.istore_n 2, 1) := by decide +kernel
theorem dX7_readsRule_114 : decode cX7_readsRule 114 = .ok (.iload_n 2, 1) := by decide +kernel
theorem dX7_readsRule_115 : decode cX7_readsRule 115 = .ok (.ifCond .eq 48, 3) := by decide +kernel
theorem dX7_readsRule_118 : decode cX7_readsRule 118 = .ok (.aload_n 0, 1) := by decide +kernel
theorem dX7_readsRule_119 : decode cX7_readsRule 119 = .ok (.iload_n 3, 1) := by decide +kernel
theorem dX7_readsRule_120 : decode cX7_readsRule 120 = .ok (.bipush 38, 2) := by decide +kernel
theorem dX7_readsRule_122 : decode cX7_readsRule 122 = .ok (.if_icmp .ne 7, 3) := by decide +kernel
theorem dX7_readsRule_125 : decode cX7_readsRule 125 = .ok (.iconst 1, 1) := by decide +kernel
theorem dX7_readsRule_126 : decode cX7_readsRule 126 = .ok (.goto 4, 3) := by decide +kernel
theorem dX7_readsRule_129 : decode cX7_readsRule 129 = .ok (.iconst 2, 1) := by decide +kernel
theorem dX7_readsRule_130 : decode cX7_readsRule 130 = .ok (.invokevirtual 185, 3) := by decide +kernel
theorem dX7_readsRule_133 : decode cX7_readsRule 133 = .ok (.aload_n 0, 1) := by decide +kernel
theorem dX7_readsRule_134 : decode cX7_readsRule 134 = .ok (.getfield 35, 3) := by decide +kernel
theorem dX7_readsRule_137 : decode cX7_readsRule 137 = .ok (.aload_n 0, 1) := by decide +kernel
theorem dX7_readsRule_138 : decode cX7_readsRule 138 = .ok (.getfield 166, 3) := by decide +kernel
theorem dX7_readsRule_141 : decode cX7_readsRule 141 = .ok (.iload_n 3, 1) := by decide +kernel
theorem dX7_readsRule_142 : decode cX7_readsRule 142 = .ok (.iastore, 1) := by decide +kernel
theorem dX7_readsRule_143 : decode cX7_readsRule 143 = .ok (.aload_n 0, 1) := by decide +kernel
theorem dX7_readsRule_144 : decode cX7_readsRule 144 = .ok (.dup, 1) := by decide +kernel
theorem dX7_readsRule_145 : decode cX7_readsRule 145 = .ok (.getfield 166, 3) := by decide +kernel
theorem dX7_readsRule_148 : decode cX7_readsRule 148 = .ok (.iconst 1, 1) := by decide +kernel
theorem dX7_readsRule_149 : decode cX7_readsRule 149 = .ok (.iadd, 1) := by decide +kernel
theorem dX7_readsRule_150 : decode cX7_readsRule 150 = .ok (.putfield 166, 3) := by decide +kernel
theorem dX7_readsRule_153 : decode cX7_readsRule 153 = .ok (.aload_n 0, 1) := by decide +kernel
theorem dX7_readsRule_154 : decode cX7_readsRule 154 = .ok (.dup, 1) := by decide +kernel
theorem dX7_readsRule_155 : decode cX7_readsRule 155 = .ok (.getfield 149, 3) := by decide +kernel
theorem dX7_readsRule_158 : decode cX7_readsRule 158 = .ok (.iconst 1, 1) := by decide +kernel
theorem dX7_readsRule_159 : decode cX7_readsRule 159 = .ok (.iadd, 1) := by decide +kernel
theorem dX7_readsRule_160 : decode cX7_readsRule 160 = .ok (.putfield 149, 3) := by decide +kernel
theorem dX7_readsRule_163 : decode cX7_readsRule 163 = .ok (.goto (-139), 3) := by decide +kernel
theorem dX7_readsRule_166 : decode cX7_readsRule 166 = .ok (.aload_n 0, 1) := by decide +kernel
theorem dX7_readsRule_167 : decode cX7_readsRule 167 = .ok (.invokevirtual 189, 3) := by decide +kernel
theorem dX7_readsRule_170 : decode cX7_readsRule 170 = .ok (.ifCond .gt 12, 3) := by decide +kernel
theorem dX7_readsRule_173 : decode cX7_readsRule 173 = .ok (.aload_n 0, 1) := by decide +kernel
theorem dX7_readsRule_174 : decode cX7_readsRule 174 = .ok (.invokevirtual 158, 3) := by decide +kernel
theorem dX7_readsRule_177 : decode cX7_readsRule 177 = .ok (.bipush 63, 2) := by decide +kernel
theorem dX7_readsRule_179 : decode cX7_readsRule 179 = .ok (.if_icmp .eq 5, 3) := by decide +kernel
theorem dX7_readsRule_182 : decode cX7_readsRule 182 = .ok (.iconst 0, 1) := by decide +kernel
theorem dX7_readsRule_183 : decode cX7_readsRule 183 = .ok (.ireturn, 1) := by decide +kernel
theorem dX7_readsRule_184 : decode cX7_readsRule 184 = .ok (.aload_n 0, 1) := by decide +kernel
theorem dX7_readsRule_185 : decode cX7_readsRule 185 = .ok (.iconst 2, 1) := by decide +kernel
theorem dX7_readsRule_186 : decode cX7_readsRule 186 = .ok (.invokevirtual 185, 3) := by decide +kernel
theorem dX7_readsRule_189 : decode cX7_readsRule 189 = .ok (.aload_n 0, 1) := by decide +kernel
theorem dX7_readsRule_190 : decode cX7_readsRule 190 = .ok (.dup, 1) := by decide +kernel
theorem dX7_readsRule_191 : decode cX7_readsRule 191 = .ok (.getfield 149, 3) := by decide +kernel
theorem dX7_readsRule_194 : decode cX7_readsRule 194 = .ok (.iconst 1, 1) := by decide +kernel
theorem dX7_readsRule_195 : decode cX7_readsRule 195 = .ok (.iadd, 1) := by decide +kernel
theorem dX7_readsRule_196 : decode cX7_readsRule 196 = .ok (.putfield 149, 3) := by decide +kernel
theorem dX7_readsRule_199 : decode cX7_readsRule 199 = .ok (.aload_n 0, 1) := by decide +kernel
theorem dX7_readsRule_200 : decode cX7_readsRule 200 = .ok (.getfield 29, 3) := by decide +kernel
theorem dX7_readsRule_203 : decode cX7_readsRule 203 = .ok (.iload_n 1, 1) := by decide +kernel
theorem dX7_readsRule_204 : decode cX7_readsRule 204 = .ok (.aload_n 0, 1) := by decide +kernel
theorem dX7_readsRule_205 : decode cX7_readsRule 205 = .ok (.invokevirtual 158, 3) := by decide +kernel
theorem dX7_readsRule_208 : decode cX7_readsRule 208 = .ok (.iastore, 1) := by decide +kernel
theorem dX7_readsRule_209 : decode cX7_readsRule 209 = .ok (.aload_n 0, 1) := by decide +kernel
theorem dX7_readsRule_210 : decode cX7_readsRule 210 = .ok (.getfield 29, 3) := by decide +kernel
theorem dX7_readsRule_213 : decode cX7_readsRule 213 = .ok (.iload_n 1, 1) := by decide +kernel
theorem dX7_readsRule_214 : decode cX7_readsRule 214 = .ok (.iaload, 1) := by decide +kernel
theorem dX7_readsRule_215 : decode cX7_readsRule 215 = .ok (.bipush 43, 2) := by decide +kernel
theorem dX7_readsRule_217 : decode cX7_readsRule 217 = .ok (.if_icmp .eq 27, 3) := by decide +kernel
theorem dX7_readsRule_220 : decode cX7_readsRule 220 = .ok (.aload_n 0, 1) := by decide +kernel
theorem dX7_readsRule_221 : decode cX7_readsRule 221 = .ok (.getfield 29, 3) := by decide +kernel
theorem dX7_readsRule_224 : decode cX7_readsRule 224 = .ok (.iload_n 1, 1) := by decide +kernel
theorem dX7_readsRule_225 : decode cX7_readsRule 225 = .ok (.iaload, 1) := by decide +kernel
theorem dX7_readsRule_226 : decode cX7_readsRule 226 = .ok (.bipush 45, 2) := by decide +kernel
theorem dX7_readsRule_228 : decode cX7_readsRule 228 = .ok (.if_icmp .eq 16, 3) := by decide +kernel
theorem dX7_readsRule_231 : decode cX7_readsRule 231 = .ok (.aload_n 0, 1) := by decide +kernel
theorem dX7_readsRule_232 : decode cX7_readsRule 232 = .ok (.getfield 29, 3) := by decide +kernel
theorem dX7_readsRule_235 : decode cX7_readsRule 235 = .ok (.iload_n 1, 1) := by decide +kernel
theorem dX7_readsRule_236 : decode cX7_readsRule 236 = .ok (.iaload, 1) := by decide +kernel
theorem dX7_readsRule_237 : decode cX7_readsRule 237 = .ok (.bipush 42, 2) := by decide +kernel
theorem dX7_readsRule_239 : decode cX7_readsRule 239 = .ok (.if_icmp .eq 5, 3) := by decide +kernel
theorem dX7_readsRule_242 : decode cX7_readsRule 242 = .ok (.iconst 0, 1) := by decide +kernel
theorem dX7_readsRule_243 : decode cX7_readsRule 243 = .ok (.ireturn, 1) := by decide +kernel
theorem dX7_readsRule_244 : decode cX7_readsRule 244 = .ok (.aload_n 0, 1) := by decide +kernel
theorem dX7_readsRule_245 : decode cX7_readsRule 245 = .ok (.dup, 1) := by decide +kernel
theorem dX7_readsRule_246 : decode cX7_readsRule 246 = .ok (.getfield 149, 3) := by decide +kernel
theorem dX7_readsRule_249 : decode cX7_readsRule 249 = .ok (.iconst 1, 1) := by decide +kernel
theorem dX7_readsRule_250 : decode cX7_readsRule 250 = .ok (.iadd, 1) := by decide +kernel
theorem dX7_readsRule_251 : decode cX7_readsRule 251 = .ok (.putfield 149, 3) := by decide +kernel
theorem dX7_readsRule_254 : decode cX7_readsRule 254 = .ok (.aload_n 0, 1) := by decide +kernel
theorem dX7_readsRule_255 : decode cX7_readsRule 255 = .ok (.getfield 32, 3) := by decide +kernel
theorem dX7_readsRule_258 : decode cX7_readsRule 258 = .ok (.iload_n 1, 1) := by decide +kernel
theorem dX7_readsRule_259 : decode cX7_readsRule 259 = .ok (.aload_n 0, 1) := by decide +kernel
theorem dX7_readsRule_260 : decode cX7_readsRule 260 = .ok (.invokevirtual 176, 3) := by decide +kernel
theorem dX7_readsRule_263 : decode cX7_readsRule 263 = .ok (.iastore, 1) := by decide +kernel
theorem dX7_readsRule_264 : decode cX7_readsRule 264 = .ok (.aload_n 0, 1) := by decide +kernel
theorem dX7_readsRule_265 : decode cX7_readsRule 265 = .ok (.getfield 32, 3) := by decide +kernel
theorem dX7_readsRule_268 : decode cX7_readsRule 268 = .ok (.iload_n 1, 1) := by decide +kernel
theorem dX7_readsRule_269 : decode cX7_readsRule 269 = .ok (.iaload, 1) := by decide +kernel
theorem dX7_readsRule_270 : decode cX7_readsRule 270 = .ok (.ifCond .lt 18, 3) := by decide +kernel
theorem dX7_readsRule_273 : decode cX7_readsRule 273 = .ok (.aload_n 0, 1) := by decide +kernel
theorem dX7_readsRule_274 : decode cX7_readsRule 274 = .ok (.getfield 149, 3) := by decide +kernel
theorem dX7_readsRule_277 : decode cX7_readsRule 277 = .ok (.aload_n 0, 1) := by decide +kernel
theorem dX7_readsRule_278 : decode cX7_readsRule 278 = .ok (.getfield 152, 3) := by decide +kernel
theorem dX7_readsRule_281 : decode cX7_readsRule 281 = .ok (.if_icmp .ne 7, 3) := by decide +kernel
theorem dX7_readsRule_284 : decode cX7_readsRule 284 = .ok (.iconst 1, 1) := by decide +kernel
theorem dX7_readsRule_285 : decode cX7_readsRule 285 = .ok (.goto 4, 3) := by decide +kernel
theorem dX7_readsRule_288 : decode cX7_readsRule 288 = .ok (.iconst 0, 1) := by decide +kernel
theorem dX7_readsRule_289 : decode cX7_readsRule 289 = .ok (.ireturn, 1) := by decide +kernel
set_option maxRecDepth 20000 in
theorem ggX7_rule_X7_readsRule : GoodIn wsX7_rule wsX7_readsRule := goodIn_r _ [13, 14, 15, 16, 5, 17, 18, 19, 2, 20, 21, 22, 12, 23, 24, 25, 26, 27, 3, 28, 29, 30, 31, 32, 33, 34, 35, 36, 37, 38, 39, 40, 41, 42, 43, 44, 45, 46, 47, 48, 49, 50, 51, 52, 53, 54, 55, 56, 63, 64, 65, 66, 67, 68, 69, 70, 71, 72, 73, 74, 75, 76, 77, 78, 79, 80, 81] (by decide +kernel) (by decide +kernel)
set_option maxRecDepth 20000 in
theorem gX7_rule_X7_readsRule : GoodIn wsX7_rule (wsV RX7 192 RX7 yX7_readsRule wsX7_readsRule) := goodIn_app (goodIn_of _ (by decide +kernel)) ggX7_rule_X7_readsRule
set_option maxRecDepth 20000 in
theorem ggX7_rule_X7_act : GoodIn wsX7_rule wsX7_act := goodIn_r _ [60, 61, 62, 6, 63, 64, 65, 66, 67, 68, 69, 70, 71, 72, 73, 74, 75, 76, 77, 78, 79, 80, 81] (by decide +kernel) (by decide +kernel)
set_option maxRecDepth 20000 in
theorem gX7_rule_X7_act : GoodIn wsX7_rule (wsV RX7 62 RX7 yX7_act wsX7_act) := goodIn_app (goodIn_of _ (by decide +kernel)) ggX7_rule_X7_act
theorem dX7_rule_0 : decode cX7_rule 0 = .ok (.aload_n 0, 1) := by decide +kernel
theorem dX7_rule_1 : decode cX7_rule 1 = .ok (.aload_n 0, 1) := by decide +kernel
theorem dX7_rule_2 : decode cX7_rule 2 = .ok (.getfield 146, 3) := by decide +kernel
theorem dX7_rule_5 : decode cX7_rule 5 = .ok (.putfield 152, 3) := by decide +kernel
theorem dX7_rule_8 : decode cX7_rule 8 = .ok (.iconst 0, 1) := by decide +kernel
theorem dX7_rule_9 : decode cX7_rule 9 = .ok (.istore_n 1, 1) := by decide +kernel
theorem dX7_rule_10 : decode cX7_rule 10 = .ok (.iload_n 1, 1) := by decide +kernel
theorem dX7_rule_11 : decode cX7_rule 11 = .ok (.aload_n 0, 1) := by decide +kernel
theorem dX7_rule_12 : decode cX7_rule 12 = .ok (.getfield 152, 3) := by decide +kernel
theorem dX7_rule_15 : decode cX7_rule 15 = .ok (.if_icmp .ge 21, 3) := by decide +kernel
theorem dX7_rule_18 : decode cX7_rule 18 = .ok (.aload_n 0, 1) := by decide +kernel
theorem dX7_rule_19 : decode cX7_rule 19 = .ok (.getfield 20, 3) := by decide +kernel
theorem dX7_rule_22 : decode cX7_rule 22 = .ok (.iload_n 1, 1) := by decide +kernel
theorem dX7_rule_23 : decode cX7_rule 23 = .ok (.aload_n 0, 1) := by decide +kernel
theorem dX7_rule_24 : decode cX7_rule 24 = .ok (.getfield 16, 3) := by decide +kernel
theorem dX7_rule_27 : decode cX7_rule 27 = .ok (.iload_n 1, 1) := by decide +kernel
theorem dX7_rule_28 : decode cX7_rule 28 = .ok (.iaload, 1) := by decide +kernel
theorem dX7_rule_29 : decode cX7_rule 29 = .ok (.iastore, 1) := by decide +kernel
theorem dX7_rule_30 : decode cX7_rule 30 = .ok (.iinc 1 1, 3) := by decide +kernel
theorem dX7_rule_33 : decode cX7_rule 33 = .ok (.goto (-23), 3) := by decide +kernel
theorem dX7_rule_36 : decode cX7_rule 36 = .ok (.aload_n 0, 1) := by decide +kernel
theorem dX7_rule_37 : decode cX7_rule 37 = .ok (.bipush 7, 2) := by decide +kernel
theorem dX7_rule_39 : decode cX7_rule 39 = .ok (.invokevirtual 192, 3) := by decide +kernel
theorem dX7_rule_42 : decode cX7_rule 42 = .ok (.ifCond .ne 11, 3) := by decide +kernel
theorem dX7_rule_45 : decode cX7_rule 45 = .ok (.bipush (-100), 2) := by decide +kernel
theorem dX7_rule_47 : decode cX7_rule 47 = .ok (.aload_n 0, 1) := by decide +kernel
theorem dX7_rule_48 : decode cX7_rule 48 = .ok (.getfield 149, 3) := by decide +kernel
theorem dX7_rule_51 : decode cX7_rule 51 = .ok (.isub, 1) := by decide +kernel
theorem dX7_rule_52 : decode cX7_rule 52 = .ok (.ireturn, 1) := by decide +kernel
theorem dX7_rule_53 : decode cX7_rule 53 = .ok (.aload_n 0, 1) := by decide +kernel
theorem dX7_rule_54 : decode cX7_rule 54 = .ok (.getfield 7, 3) := by decide +kernel
theorem dX7_rule_57 : decode cX7_rule 57 = .ok (.bipush 18, 2) := by decide +kernel
theorem dX7_rule_59 : decode cX7_rule 59 = .ok (.laload, 1) := by decide +kernel
theorem dX7_rule_60 : decode cX7_rule 60 = .ok (.ldc2_w 195, 3) := by decide +kernel
theorem dX7_rule_63 : decode cX7_rule 63 = .ok (.lcmp, 1) := by decide +kernel
theorem dX7_rule_64 : decode cX7_rule 64 = .ok (.ifCond .ne 6, 3) := by decide +kernel
theorem dX7_rule_67 : decode cX7_rule 67 = .ok (.ldc 139, 2) := by decide +kernel
theorem dX7_rule_69 : decode cX7_rule 69 = .ok (.ireturn, 1) := by decide +kernel
theorem dX7_rule_70 : decode cX7_rule 70 = .ok (.aload_n 0, 1) := by decide +kernel
theorem dX7_rule_71 : decode cX7_rule 71 = .ok (.invokevirtual 62, 3) := by decide +kernel
theorem dX7_rule_74 : decode cX7_rule 74 = .ok (.bipush 80, 2) := by decide +kernel
theorem dX7_rule_76 : decode cX7_rule 76 = .ok (.bipush 61, 2) := by decide +kernel
theorem dX7_rule_78 : decode cX7_rule 78 = .ok (.aload_n 0, 1) := by decide +kernel
theorem dX7_rule_79 : decode cX7_rule 79 = .ok (.getfield 7, 3) := by decide +kernel
theorem dX7_rule_82 : decode cX7_rule 82 = .ok (.bipush 18, 2) := by decide +kernel
theorem dX7_rule_84 : decode cX7_rule 84 = .ok (.laload, 1) := by decide +kernel
theorem dX7_rule_85 : decode cX7_rule 85 = .ok (.l2i, 1) := by decide +kernel
theorem dX7_rule_86 : decode cX7_rule 86 = .ok (.imul, 1) := by decide +kernel
theorem dX7_rule_87 : decode cX7_rule 87 = .ok (.iadd, 1) := by decide +kernel
theorem dX7_rule_88 : decode cX7_rule 88 = .ok (.istore_n 1, 1) := by decide +kernel
theorem dX7_rule_89 : decode cX7_rule 89 = .ok (.aload_n 0, 1) := by decide +kernel
theorem dX7_rule_90 : decode cX7_rule 90 = .ok (.getfield 7, 3) := by decide +kernel
theorem dX7_rule_93 : decode cX7_rule 93 = .ok (.iload_n 1, 1) := by decide +kernel
theorem dX7_rule_94 : decode cX7_rule 94 = .ok (.aload_n 0, 1) := by decide +kernel
theorem dX7_rule_95 : decode cX7_rule 95 = .ok (.getfield 152, 3) := by decide +kernel
theorem dX7_rule_98 : decode cX7_rule 98 = .ok (.i2l, 1) := by decide +kernel
theorem dX7_rule_99 : decode cX7_rule 99 = .ok (.lastore, 1) := by decide +kernel
theorem dX7_rule_100 : decode cX7_rule 100 = .ok (.iconst 0, 1) := by decide +kernel
theorem dX7_rule_101 : decode cX7_rule 101 = .ok (.istore_n 2, 1) := by decide +kernel
theorem dX7_rule_102 : decode cX7_rule 102 = .ok (.iload_n 2, 1) := by decide +kernel
theorem dX7_rule_103 : decode cX7_rule 103 = .ok (.aload_n 0, 1) := by decide +kernel
theorem dX7_rule_104 : decode cX7_rule 104 = .ok (.getfield 152, 3) := by decide +kernel
theorem dX7_rule_107 : decode cX7_rule 107 = .ok (.if_icmp .ge 26, 3) := by decide +kernel
theorem dX7_rule_110 : decode cX7_rule 110 = .ok (.aload_n 0, 1) := by decide +kernel
theorem dX7_rule_111 : decode cX7_rule 111 = .ok (.getfield 7, 3) := by decide +kernel
theorem dX7_rule_114 : decode cX7_rule 114 = .ok (.iload_n 1, 1) := by decide +kernel
theorem dX7_rule_115 : decode cX7_rule 115 = .ok (.iconst 1, 1) := by decide +kernel
theorem dX7_rule_116 : decode cX7_rule 116 = .ok (.iadd, 1) := by decide +kernel
theorem dX7_rule_117 : decode cX7_rule 117 = .ok (.iload_n 2, 1) := by decide +kernel
theorem dX7_rule_118 : decode cX7_rule 118 = .ok (.iadd, 1) := by decide +kernel
theorem dX7_rule_119 : decode cX7_rule 119 = .ok (.aload_n 0, 1) := by decide +kernel
theorem dX7_rule_120 : decode cX7_rule 120 = .ok (.getfield 20, 3) := by decide +kernel
theorem dX7_rule_123 : decode cX7_rule 123 = .ok (.iload_n 2, 1) := by decide +kernel
theorem dX7_rule_124 : decode cX7_rule 124 = .ok (.iaload, 1) := by decide +kernel
theorem dX7_rule_125 : decode cX7_rule 125 = .ok (.i2l, 1) := by decide +kernel
theorem dX7_rule_126 : decode cX7_rule 126 = .ok (.lastore, 1) := by decide +kernel
theorem dX7_rule_127 : decode cX7_rule 127 = .ok (.iinc 2 1, 3) := by decide +kernel
theorem dX7_rule_130 : decode cX7_rule 130 = .ok (.goto (-28), 3) := by decide +kernel
theorem dX7_rule_133 : decode cX7_rule 133 = .ok (.aload_n 0, 1) := by decide +kernel
theorem dX7_rule_134 : decode cX7_rule 134 = .ok (.getfield 7, 3) := by decide +kernel
theorem dX7_rule_137 : decode cX7_rule 137 = .ok (.bipush 18, 2) := by decide +kernel
theorem dX7_rule_139 : decode cX7_rule 139 = .ok (.dup2, 1) := by decide +kernel
theorem dX7_rule_140 : decode cX7_rule 140 = .ok (.laload, 1) := by decide +kernel
theorem dX7_rule_141 : decode cX7_rule 141 = .ok (.lconst 1, 1) := by decide +kernel
theorem dX7_rule_142 : decode cX7_rule 142 = .ok (.ladd, 1) := by decide +kernel
theorem dX7_rule_143 : decode cX7_rule 143 = .ok (.lastore, 1) := by decide +kernel
theorem dX7_rule_144 : decode cX7_rule 144 = .ok (.aload_n 0, 1) := by decide +kernel
theorem dX7_rule_145 : decode cX7_rule 145 = .ok (.iconst 0, 1) := by decide +kernel
theorem dX7_rule_146 : decode cX7_rule 146 = .ok (.putfield 146, 3) := by decide +kernel
theorem dX7_rule_149 : decode cX7_rule 149 = .ok (.aload_n 0, 1) := by decide +kernel
theorem dX7_rule_150 : decode cX7_rule 150 = .ok (.getfield 7, 3) := by decide +kernel
theorem dX7_rule_153 : decode cX7_rule 153 = .ok (.bipush 18, 2) := by decide +kernel
theorem dX7_rule_155 : decode cX7_rule 155 = .ok (.laload, 1) := by decide +kernel
theorem dX7_rule_156 : decode cX7_rule 156 = .ok (.l2i, 1) := by decide +kernel
theorem dX7_rule_157 : decode cX7_rule 157 = .ok (.ireturn, 1) := by decide +kernel
set_option maxRecDepth 20000 in
theorem ggX7_unrule_X7_act : GoodIn wsX7_unrule wsX7_act := goodIn_r _ [7, 8, 9, 1, 10, 11, 12, 13, 14, 15, 16, 17, 18, 19, 20, 21, 22, 23, 24, 25, 26, 27, 28] (by decide +kernel) (by decide +kernel)
set_option maxRecDepth 20000 in
theorem gX7_unrule_X7_act : GoodIn wsX7_unrule (wsV RX7 62 RX7 yX7_act wsX7_act) := goodIn_app (goodIn_of _ (by decide +kernel)) ggX7_unrule_X7_act
theorem dX7_unrule_0 : decode cX7_unrule 0 = .ok (.aload_n 0, 1) := by decide +kernel
theorem dX7_unrule_1 : decode cX7_unrule 1 = .ok (.getfield 7, 3) := by decide +kernel
theorem dX7_unrule_4 : decode cX7_unrule 4 = .ok (.bipush 18, 2) := by decide +kernel
theorem dX7_unrule_6 : decode cX7_unrule 6 = .ok (.laload, 1) := by decide +kernel
theorem dX7_unrule_7 : decode cX7_unrule 7 = .ok (.lconst 0, 1) := by decide +kernel
theorem dX7_unrule_8 : decode cX7_unrule 8 = .ok (.lcmp, 1) := by decide +kernel
theorem dX7_unrule_9 : decode cX7_unrule 9 = .ok (.ifCond .ne 6, 3) := by decide +kernel
theorem dX7_unrule_12 : decode cX7_unrule 12 = .ok (.ldc 108, 2) := by decide +kernel
theorem dX7_unrule_14 : decode cX7_unrule 14 = .ok (.ireturn, 1) := by decide +kernel
theorem dX7_unrule_15 : decode cX7_unrule 15 = .ok (.aload_n 0, 1) := by decide +kernel
theorem dX7_unrule_16 : decode cX7_unrule 16 = .ok (.invokevirtual 62, 3) := by decide +kernel
theorem dX7_unrule_19 : decode cX7_unrule 19 = .ok (.aload_n 0, 1) := by decide +kernel
theorem dX7_unrule_20 : decode cX7_unrule 20 = .ok (.getfield 7, 3) := by decide +kernel
theorem dX7_unrule_23 : decode cX7_unrule 23 = .ok (.bipush 18, 2) := by decide +kernel
theorem dX7_unrule_25 : decode cX7_unrule 25 = .ok (.dup2, 1) := by decide +kernel
theorem dX7_unrule_26 : decode cX7_unrule 26 = .ok (.laload, 1) := by decide +kernel
theorem dX7_unrule_27 : decode cX7_unrule 27 = .ok (.lconst 1, 1) := by decide +kernel
theorem dX7_unrule_28 : decode cX7_unrule 28 = .ok (.lsub, 1) := by decide +kernel
theorem dX7_unrule_29 : decode cX7_unrule 29 = .ok (.lastore, 1) := by decide +kernel
theorem dX7_unrule_30 : decode cX7_unrule 30 = .ok (.aload_n 0, 1) := by decide +kernel
theorem dX7_unrule_31 : decode cX7_unrule 31 = .ok (.getfield 7, 3) := by decide +kernel
theorem dX7_unrule_34 : decode cX7_unrule 34 = .ok (.bipush 18, 2) := by decide +kernel
theorem dX7_unrule_36 : decode cX7_unrule 36 = .ok (.laload, 1) := by decide +kernel
theorem dX7_unrule_37 : decode cX7_unrule 37 = .ok (.l2i, 1) := by decide +kernel
theorem dX7_unrule_38 : decode cX7_unrule 38 = .ok (.ireturn, 1) := by decide +kernel
theorem dX7_rules_0 : decode cX7_rules 0 = .ok (.aload_n 0, 1) := by decide +kernel
theorem dX7_rules_1 : decode cX7_rules 1 = .ok (.getfield 7, 3) := by decide +kernel
theorem dX7_rules_4 : decode cX7_rules 4 = .ok (.bipush 18, 2) := by decide +kernel
theorem dX7_rules_6 : decode cX7_rules 6 = .ok (.laload, 1) := by decide +kernel
theorem dX7_rules_7 : decode cX7_rules 7 = .ok (.l2i, 1) := by decide +kernel
theorem dX7_rules_8 : decode cX7_rules 8 = .ok (.ireturn, 1) := by decide +kernel
set_option maxRecDepth 20000 in
theorem ggX7_readsRules_X7_readsRule : GoodIn wsX7_readsRules wsX7_readsRule := goodIn_r _ [9, 10, 11, 12, 13, 14, 15, 16, 2, 17, 18, 19, 8, 20, 21, 22, 23, 24, 3, 25, 26, 27, 28, 29, 30, 31, 32, 33, 34, 35, 36, 37, 38, 39, 40, 41, 42, 43, 44, 45, 46, 47, 48, 49, 50, 51, 52, 53, 54, 55, 56, 57, 58, 59, 60, 61, 62, 63, 64, 65, 66, 67, 68, 69, 70, 71, 72] (by decide +kernel) (by decide +kernel)
set_option maxRecDepth 20000 in
theorem gX7_readsRules_X7_readsRule : GoodIn wsX7_readsRules (wsV RX7 192 RX7 yX7_readsRule wsX7_readsRule) := goodIn_app (goodIn_of _ (by decide +kernel)) ggX7_readsRules_X7_readsRule
theorem dX7_readsRules_0 : decode cX7_readsRules 0 = .ok (.iconst 0, 1) := by decide +kernel
theorem dX7_readsRules_1 : decode cX7_readsRules 1 = .ok (.istore_n 1, 1) := by decide +kernel
theorem dX7_readsRules_2 : decode cX7_readsRules 2 = .ok (.iload_n 1, 1) := by decide +kernel
theorem dX7_readsRules_3 : decode cX7_readsRules 3 = .ok (.i2l, 1) := by decide +kernel
theorem dX7_readsRules_4 : decode cX7_readsRules 4 = .ok (.aload_n 0, 1) := by decide +kernel
theorem dX7_readsRules_5 : decode cX7_readsRules 5 = .ok (.getfield 7, 3) := by decide +kernel
theorem dX7_readsRules_8 : decode cX7_readsRules 8 = .ok (.bipush 18, 2) := by decide +kernel
theorem dX7_readsRules_10 : decode cX7_readsRules 10 = .ok (.laload, 1) := by decide +kernel
theorem dX7_readsRules_11 : decode cX7_readsRules 11 = .ok (.lcmp, 1) := by decide +kernel
theorem dX7_readsRules_12 : decode cX7_readsRules 12 = .ok (.ifCond .ge 74, 3) := by decide +kernel
theorem dX7_readsRules_15 : decode cX7_readsRules 15 = .ok (.aload_n 0, 1) := by decide +kernel
theorem dX7_readsRules_16 : decode cX7_readsRules 16 = .ok (.aload_n 0, 1) := by decide +kernel
theorem dX7_readsRules_17 : decode cX7_readsRules 17 = .ok (.getfield 7, 3) := by decide +kernel
theorem dX7_readsRules_20 : decode cX7_readsRules 20 = .ok (.bipush 80, 2) := by decide +kernel
theorem dX7_readsRules_22 : decode cX7_readsRules 22 = .ok (.bipush 61, 2) := by decide +kernel
theorem dX7_readsRules_24 : decode cX7_readsRules 24 = .ok (.iload_n 1, 1) := by decide +kernel
theorem dX7_readsRules_25 : decode cX7_readsRules 25 = .ok (.imul, 1) := by decide +kernel
theorem dX7_readsRules_26 : decode cX7_readsRules 26 = .ok (.iadd, 1) := by decide +kernel
theorem dX7_readsRules_27 : decode cX7_readsRules 27 = .ok (.laload, 1) := by decide +kernel
theorem dX7_readsRules_28 : decode cX7_readsRules 28 = .ok (.l2i, 1) := by decide +kernel
theorem dX7_readsRules_29 : decode cX7_readsRules 29 = .ok (.putfield 152, 3) := by decide +kernel
theorem dX7_readsRules_32 : decode cX7_readsRules 32 = .ok (.iconst 0, 1) := by decide +kernel
theorem dX7_readsRules_33 : decode cX7_readsRules 33 = .ok (.istore_n 2, 1) := by decide +kernel
theorem dX7_readsRules_34 : decode cX7_readsRules 34 = .ok (.iload_n 2, 1) := by decide +kernel
theorem dX7_readsRules_35 : decode cX7_readsRules 35 = .ok (.aload_n 0, 1) := by decide +kernel
theorem dX7_readsRules_36 : decode cX7_readsRules 36 = .ok (.getfield 152, 3) := by decide +kernel
theorem dX7_readsRules_39 : decode cX7_readsRules 39 = .ok (.if_icmp .ge 32, 3) := by decide +kernel
theorem dX7_readsRules_42 : decode cX7_readsRules 42 = .ok (.aload_n 0, 1) := by decide +kernel
theorem dX7_readsRules_43 : decode cX7_readsRules 43 = .ok (.getfield 20, 3) := by decide +kernel
theorem dX7_readsRules_46 : decode cX7_readsRules 46 = .ok (.iload_n 2, 1) := by decide +kernel
theorem dX7_readsRules_47 : decode cX7_readsRules 47 = .ok (.aload_n 0, 1) := by decide +kernel
theorem dX7_readsRules_48 : decode cX7_readsRules 48 = .ok (.getfield 7, 3) := by decide +kernel
theorem dX7_readsRules_51 : decode cX7_readsRules 51 = .ok (.bipush 80, 2) := by decide +kernel
theorem dX7_readsRules_53 : decode cX7_readsRules 53 = .ok (.bipush 61, 2) := by decide +kernel
theorem dX7_readsRules_55 : decode cX7_readsRules 55 = .ok (.iload_n 1, 1) := by decide +kernel
theorem dX7_readsRules_56 : decode cX7_readsRules 56 = .ok (.imul, 1) := by decide +kernel
theorem dX7_readsRules_57 : decode cX7_readsRules 57 = .ok (.iadd, 1) := by decide +kernel
theorem dX7_readsRules_58 : decode cX7_readsRules 58 = .ok (.iconst 1, 1) := by decide +kernel
theorem dX7_readsRules_59 : decode cX7_readsRules 59 = .ok (.iadd, 1) := by decide +kernel
theorem dX7_readsRules_60 : decode cX7_readsRules 60 = .ok (.iload_n 2, 1) := by decide +kernel
theorem dX7_readsRules_61 : decode cX7_readsRules 61 = .ok (.iadd, 1) := by decide +kernel
theorem dX7_readsRules_62 : decode cX7_readsRules 62 = .ok (.laload, 1) := by decide +kernel
theorem dX7_readsRules_63 : decode cX7_readsRules 63 = .ok (.l2i, 1) := by decide +kernel
theorem dX7_readsRules_64 : decode cX7_readsRules 64 = .ok (.iastore, 1) := by decide +kernel
theorem dX7_readsRules_65 : decode cX7_readsRules 65 = .ok (.iinc 2 1, 3) := by decide +kernel
theorem dX7_readsRules_68 : decode cX7_readsRules 68 = .ok (.goto (-34), 3) := by decide +kernel
theorem dX7_readsRules_71 : decode cX7_readsRules 71 = .ok (.aload_n 0, 1) := by decide +kernel
theorem dX7_readsRules_72 : decode cX7_readsRules 72 = .ok (.aload_n 0, 1) := by decide +kernel
theorem dX7_readsRules_73 : decode cX7_readsRules 73 = .ok (.iload_n 1, 1) := by decide +kernel
theorem dX7_readsRules_74 : decode cX7_readsRules 74 = .ok (.invokevirtual 192, 3) := by decide +kernel
theorem dX7_readsRules_77 : decode cX7_readsRules 77 = .ok (.putfield 197, 3) := by decide +kernel
theorem dX7_readsRules_80 : decode cX7_readsRules 80 = .ok (.iinc 1 1, 3) := by decide +kernel
theorem dX7_readsRules_83 : decode cX7_readsRules 83 = .ok (.goto (-81), 3) := by decide +kernel
theorem dX7_readsRules_86 : decode cX7_readsRules 86 = .ok (.return_, 1) := by decide +kernel
theorem dX7_holds_0 : decode cX7_holds 0 = .ok (.iconst 0, 1) := by decide +kernel
theorem dX7_holds_1 : decode cX7_holds 1 = .ok (.istore_n 2, 1) := by decide +kernel
theorem dX7_holds_2 : decode cX7_holds 2 = .ok (.iconst 0, 1) := by decide +kernel
theorem dX7_holds_3 : decode cX7_holds 3 = .ok (.istore_n 3, 1) := by decide +kernel
theorem dX7_holds_4 : decode cX7_holds 4 = .ok (.iload_n 3, 1) := by decide +kernel
theorem dX7_holds_5 : decode cX7_holds 5 = .ok (.aload_n 0, 1) := by decide +kernel
theorem dX7_holds_6 : decode cX7_holds 6 = .ok (.getfield 26, 3) := by decide +kernel
theorem dX7_holds_9 : decode cX7_holds 9 = .ok (.iload_n 1, 1) := by decide +kernel
theorem dX7_holds_10 : decode cX7_holds 10 = .ok (.iaload, 1) := by decide +kernel
theorem dX7_holds_11 : decode cX7_holds 11 = .ok (.if_icmp .ge 259, 3) := by decide +kernel
theorem dX7_holds_14 : decode cX7_holds 14 = .ok (.sipush 200, 3) := by decide +kernel
theorem dX7_holds_17 : decode cX7_holds 17 = .ok (.iload_n 1, 1) := by decide +kernel
theorem dX7_holds_18 : decode cX7_holds 18 = .ok (.imul, 1) := by decide +kernel
theorem dX7_holds_19 : decode cX7_holds 19 = .ok (.iconst 3, 1) := by decide +kernel
theorem dX7_holds_20 : decode cX7_holds 20 = .ok (.iload_n 3, 1) := by decide +kernel
theorem dX7_holds_21 : decode cX7_holds 21 = .ok (.imul, 1) := by decide +kernel
theorem dX7_holds_22 : decode cX7_holds 22 = .ok (.iadd, 1) := by decide +kernel
theorem dX7_holds_23 : decode cX7_holds 23 = .ok (.istore 4, 2) := by decide +kernel
theorem dX7_holds_25 : decode cX7_holds 25 = .ok (.aload_n 0, 1) := by decide +kernel
theorem dX7_holds_26 : decode cX7_holds 26 = .ok (.getfield 23, 3) := by decide +kernel
theorem dX7_holds_29 : decode cX7_holds 29 = .ok (.iload 4, 2) := by decide +kernel
theorem dX7_holds_31 : decode cX7_holds 31 = .ok (.iaload, 1) := by decide +kernel
theorem dX7_holds_32 : decode cX7_holds 32 = .ok (.istore 5, 2) := by decide +kernel
theorem dX7_holds_34 : decode cX7_holds 34 = .ok (.iload 5, 2) := by decide +kernel
theorem dX7_holds_36 : decode cX7_holds 36 = .ok (.bipush 126, 2) := by decide +kernel
theorem dX7_holds_38 : decode cX7_holds 38 = .ok (.if_icmp .ne 30, 3) := by decide +kernel
theorem dX7_holds_41 : decode cX7_holds 41 = .ok (.aload_n 0, 1) := by decide +kernel
theorem dX7_holds_42 : decode cX7_holds 42 = .ok (.getfield 44, 3) := by decide +kernel
theorem dX7_holds_45 : decode cX7_holds 45 = .ok (.iload_n 2, 1) := by decide +kernel
theorem dX7_holds_46 : decode cX7_holds 46 = .ok (.iconst 1, 1) := by decide +kernel
theorem dX7_holds_47 : decode cX7_holds 47 = .ok (.isub, 1) := by decide +kernel
theorem dX7_holds_48 : decode cX7_holds 48 = .ok (.aload_n 0, 1) := by decide +kernel
theorem dX7_holds_49 : decode cX7_holds 49 = .ok (.getfield 44, 3) := by decide +kernel
theorem dX7_holds_52 : decode cX7_holds 52 = .ok (.iload_n 2, 1) := by decide +kernel
theorem dX7_holds_53 : decode cX7_holds 53 = .ok (.iconst 1, 1) := by decide +kernel
theorem dX7_holds_54 : decode cX7_holds 54 = .ok (.isub, 1) := by decide +kernel
theorem dX7_holds_55 : decode cX7_holds 55 = .ok (.baload, 1) := by decide +kernel
theorem dX7_holds_56 : decode cX7_holds 56 = .ok (.ifCond .ne 7, 3) := by decide +kernel
theorem dX7_holds_59 : decode cX7_holds 59 = .ok (.iconst 1, 1) := by decide +kernel
theorem dX7_holds_60 : decode cX7_holds 60 = .ok (.goto 4, 3) := by decide +kernel
theorem dX7_holds_63 : decode cX7_holds 63 = .ok (.iconst 0, 1) := by decide +kernel
theorem dX7_holds_64 : decode cX7_holds 64 = .ok (.bastore, 1) := by decide +kernel
theorem dX7_holds_65 : decode cX7_holds 65 = .ok (.goto 199, 3) := by decide +kernel
theorem dX7_holds_68 : decode cX7_holds 68 = .ok (.iload 5, 2) := by decide +kernel
theorem dX7_holds_70 : decode cX7_holds 70 = .ok (.bipush 38, 2) := by decide +kernel
theorem dX7_holds_72 : decode cX7_holds 72 = .ok (.if_icmp .eq 10, 3) := by decide +kernel
theorem dX7_holds_75 : decode cX7_holds 75 = .ok (.iload 5, 2) := by decide +kernel
theorem dX7_holds_77 : decode cX7_holds 77 = .ok (.bipush 124, 2) := by decide +kernel
theorem dX7_holds_79 : decode cX7_holds 79 = .ok (.if_icmp .ne 77, 3) := by decide +kernel
theorem dX7_holds_82 : decode cX7_holds 82 = .ok (.iinc 2 (-1), 3) := by decide +kernel
theorem dX7_holds_85 : decode cX7_holds 85 = .ok (.aload_n 0, 1) := by decide +kernel
theorem dX7_holds_86 : decode cX7_holds 86 = .ok (.getfield 44, 3) := by decide +kernel
theorem dX7_holds_89 : decode cX7_holds 89 = .ok (.iload_n 2, 1) := by decide +kernel
theorem dX7_holds_90 : decode cX7_holds 90 = .ok (.iconst 1, 1) := by decide +kernel
theorem dX7_holds_91 : decode cX7_holds 91 = .ok (.isub, 1) := by decide +kernel
theorem dX7_holds_92 : decode cX7_holds 92 = .ok (.iload 5, 2) := by decide +kernel
theorem dX7_holds_94 : decode cX7_holds 94 = .ok (.bipush 38, 2) := by decide +kernel
theorem dX7_holds_96 : decode cX7_holds 96 = .ok (.if_icmp .ne 31, 3) := by decide +kernel
theorem dX7_holds_99 : decode cX7_holds 99 = .ok (.aload_n 0, 1) := by decide +kernel
theorem dX7_holds_100 : decode cX7_holds 100 = .ok (.getfield 44, 3) := by decide +kernel
theorem dX7_holds_103 : decode cX7_holds 103 = .ok (.iload_n 2, 1) := by decide +kernel
theorem dX7_holds_104 : decode cX7_holds 104 = .ok (.iconst 1, 1) := by decide +kernel
theorem dX7_holds_105 : decode cX7_holds 105 = .ok (.isub, 1) := by decide +kernel
theorem dX7_holds_106 : decode cX7_holds 106 = .ok (.baload, 1) := by decide +kernel
theorem dX7_holds_107 : decode cX7_holds 107 = .ok (.ifCond .eq 16, 3) := by decide +kernel
theorem dX7_holds_110 : decode cX7_holds 110 = .ok (.aload_n 0, 1) := by decide +kernel
theorem dX7_holds_111 : decode cX7_holds 111 = .ok (.getfield 44, 3) := by decide +kernel
theorem dX7_holds_114 : decode cX7_holds 114 = .ok (.iload_n 2, 1) := by decide +kernel
theorem dX7_holds_115 : decode cX7_holds 115 = .ok (.baload, 1) := by decide +kernel
theorem dX7_holds_116 : decode cX7_holds 116 = .ok (.ifCond .eq 7, 3) := by decide +kernel
theorem dX7_holds_119 : decode cX7_holds 119 = .ok (.iconst 1, 1) := by decide +kernel
theorem dX7_holds_120 : decode cX7_holds 120 = .ok (.goto 32, 3) := by decide +kernel
theorem dX7_holds_123 : decode cX7_holds 123 = .ok (.iconst 0, 1) := by decide +kernel
theorem dX7_holds_124 : decode cX7_holds 124 = .ok (.goto 28, 3) := by decide +kernel
theorem dX7_holds_127 : decode cX7_holds 127 = .ok (.aload_n 0, 1) := by decide +kernel
theorem dX7_holds_128 : decode cX7_holds 128 = .ok (.getfield 44, 3) := by decide +kernel
theorem dX7_holds_131 : decode cX7_holds 131 = .ok (.iload_n 2, 1) := by decide +kernel
theorem dX7_holds_132 : decode cX7_holds 132 = .ok (.iconst 1, 1) := by decide +kernel
theorem dX7_holds_133 : decode cX7_holds 133 = .ok (.isub, 1) := by decide +kernel
theorem dX7_holds_134 : decode cX7_holds 134 = .ok (.baload, 1) := by decide +kernel
theorem dX7_holds_135 : decode cX7_holds 135 = .ok (.ifCond .ne 12, 3) := by decide +kernel
theorem dX7_holds_138 : decode cX7_holds 138 = .ok (.aload_n 0, 1) := by decide +kernel
theorem dX7_holds_139 : decode cX7_holds 139 = .ok (.getfield 44, 3) := by decide +kernel
theorem dX7_holds_142 : decode cX7_holds 142 = .ok (.iload_n 2, 1) := by decide +kernel
theorem dX7_holds_143 : decode cX7_holds 143 = .ok (.baload, 1) := by decide +kernel
theorem dX7_holds_144 : decode cX7_holds 144 = .ok (.ifCond .eq 7, 3) := by decide +kernel
theorem dX7_holds_147 : decode cX7_holds 147 = .ok (.iconst 1, 1) := by decide +kernel
theorem dX7_holds_148 : decode cX7_holds 148 = .ok (.goto 4, 3) := by decide +kernel
theorem dX7_holds_151 : decode cX7_holds 151 = .ok (.iconst 0, 1) := by decide +kernel
theorem dX7_holds_152 : decode cX7_holds 152 = .ok (.bastore, 1) := by decide +kernel
theorem dX7_holds_153 : decode cX7_holds 153 = .ok (.goto 111, 3) := by decide +kernel
theorem dX7_holds_156 : decode cX7_holds 156 = .ok (.aload_n 0, 1) := by decide +kernel
theorem dX7_holds_157 : decode cX7_holds 157 = .ok (.getfield 41, 3) := by decide +kernel
theorem dX7_holds_160 : decode cX7_holds 160 = .ok (.aload_n 0, 1) := by decide +kernel
theorem dX7_holds_161 : decode cX7_holds 161 = .ok (.getfield 23, 3) := by decide +kernel
theorem dX7_holds_164 : decode cX7_holds 164 = .ok (.iload 4, 2) := by decide +kernel
theorem dX7_holds_166 : decode cX7_holds 166 = .ok (.iconst 1, 1) := by decide +kernel
theorem dX7_holds_167 : decode cX7_holds 167 = .ok (.iadd, 1) := by decide +kernel
theorem dX7_holds_168 : decode cX7_holds 168 = .ok (.iaload, 1) := by decide +kernel
theorem dX7_holds_169 : decode cX7_holds 169 = .ok (.laload, 1) := by decide +kernel
theorem dX7_holds_170 : decode cX7_holds 170 = .ok (.lstore 6, 2) := by decide +kernel
theorem dX7_holds_172 : decode cX7_holds 172 = .ok (.aload_n 0, 1) := by decide +kernel
theorem dX7_holds_173 : decode cX7_holds 173 = .ok (.getfield 44, 3) := by decide +kernel
theorem dX7_holds_176 : decode cX7_holds 176 = .ok (.iload_n 2, 1) := by decide +kernel
theorem dX7_holds_177 : decode cX7_holds 177 = .ok (.iload 5, 2) := by decide +kernel
theorem dX7_holds_179 : decode cX7_holds 179 = .ok (.bipush 60, 2) := by decide +kernel
theorem dX7_holds_181 : decode cX7_holds 181 = .ok (.if_icmp .ne 27, 3) := by decide +kernel
theorem dX7_holds_184 : decode cX7_holds 184 = .ok (.lload 6, 2) := by decide +kernel
theorem dX7_holds_186 : decode cX7_holds 186 = .ok (.aload_n 0, 1) := by decide +kernel
theorem dX7_holds_187 : decode cX7_holds 187 = .ok (.getfield 23, 3) := by decide +kernel
theorem dX7_holds_190 : decode cX7_holds 190 = .ok (.iload 4, 2) := by decide +kernel
theorem dX7_holds_192 : decode cX7_holds 192 = .ok (.iconst 2, 1) := by decide +kernel
theorem dX7_holds_193 : decode cX7_holds 193 = .ok (.iadd, 1) := by decide +kernel
theorem dX7_holds_194 : decode cX7_holds 194 = .ok (.iaload, 1) := by decide +kernel
theorem dX7_holds_195 : decode cX7_holds 195 = .ok (.i2l, 1) := by decide +kernel
theorem dX7_holds_196 : decode cX7_holds 196 = .ok (.lcmp, 1) := by decide +kernel
theorem dX7_holds_197 : decode cX7_holds 197 = .ok (.ifCond .ge 7, 3) := by decide +kernel
theorem dX7_holds_200 : decode cX7_holds 200 = .ok (.iconst 1, 1) := by decide +kernel
theorem dX7_holds_201 : decode cX7_holds 201 = .ok (.goto 59, 3) := by decide +kernel
theorem dX7_holds_204 : decode cX7_holds 204 = .ok (.iconst 0, 1) := by decide +kernel
theorem dX7_holds_205 : decode cX7_holds 205 = .ok (.goto 55, 3) := by decide +kernel
theorem dX7_holds_208 : decode cX7_holds 208 = .ok (.iload 5, 2) := by decide +kernel
theorem dX7_holds_210 : decode cX7_holds 210 = .ok (.bipush 61, 2) := by decide +kernel
theorem dX7_holds_212 : decode cX7_holds 212 = .ok (.if_icmp .ne 27, 3) := by decide +kernel
theorem dX7_holds_215 : decode cX7_holds 215 = .ok (.lload 6, 2) := by decide +kernel
theorem dX7_holds_217 : decode cX7_holds 217 = .ok (.aload_n 0, 1) := by decide +kernel
theorem dX7_holds_218 : decode cX7_holds 218 = .ok (.getfield 23, 3) := by decide +kernel
theorem dX7_holds_221 : decode cX7_holds 221 = .ok (.iload 4, 2) := by decide +kernel
theorem dX7_holds_223 : decode cX7_holds 223 = .ok (.iconst 2, 1) := by decide +kernel
theorem dX7_holds_224 : decode cX7_holds 224 = .ok (.iadd, 1) := by decide +kernel
theorem dX7_holds_225 : decode cX7_holds 225 = .ok (.iaload, 1) := by decide +kernel
theorem dX7_holds_226 : decode cX7_holds 226 = .ok (.i2l, 1) := by decide +kernel
theorem dX7_holds_227 : decode cX7_holds 227 = .ok (.lcmp, 1) := by decide +kernel
theorem dX7_holds_228 : decode cX7_holds 228 = .ok (.ifCond .ne 7, 3) := by decide +kernel
theorem dX7_holds_231 : decode cX7_holds 231 = .ok (.iconst 1, 1) := by decide +kernel
theorem dX7_holds_232 : decode cX7_holds 232 = .ok (.goto 28, 3) := by decide +kernel
theorem dX7_holds_235 : decode cX7_holds 235 = .ok (.iconst 0, 1) := by decide +kernel
theorem dX7_holds_236 : decode cX7_holds 236 = .ok (.goto 24, 3) := by decide +kernel
theorem dX7_holds_239 : decode cX7_holds 239 = .ok (.lload 6, 2) := by decide +kernel
theorem dX7_holds_241 : decode cX7_holds 241 = .ok (.aload_n 0, 1) := by decide +kernel
theorem dX7_holds_242 : decode cX7_holds 242 = .ok (.getfield 23, 3) := by decide +kernel
theorem dX7_holds_245 : decode cX7_holds 245 = .ok (.iload 4, 2) := by decide +kernel
theorem dX7_holds_247 : decode cX7_holds 247 = .ok (.iconst 2, 1) := by decide +kernel
theorem dX7_holds_248 : decode cX7_holds 248 = .ok (.iadd, 1) := by decide +kernel
theorem dX7_holds_249 : decode cX7_holds 249 = .ok (.iaload, 1) := by decide +kernel
theorem dX7_holds_250 : decode cX7_holds 250 = .ok (.i2l, 1) := by decide +kernel
theorem dX7_holds_251 : decode cX7_holds 251 = .ok (.lcmp, 1) := by decide +kernel
theorem dX7_holds_252 : decode cX7_holds 252 = .ok (.ifCond .le 7, 3) := by decide +kernel
theorem dX7_holds_255 : decode cX7_holds 255 = .ok (.iconst 1, 1) := by decide +kernel
theorem dX7_holds_256 : decode cX7_holds 256 = .ok (.goto 4, 3) := by decide +kernel
theorem dX7_holds_259 : decode cX7_holds 259 = .ok (.iconst 0, 1) := by decide +kernel
theorem dX7_holds_260 : decode cX7_holds 260 = .ok (.bastore, 1) := by decide +kernel
theorem dX7_holds_261 : decode cX7_holds 261 = .ok (.iinc 2 1, 3) := by decide +kernel
theorem dX7_holds_264 : decode cX7_holds 264 = .ok (.iinc 3 1, 3) := by decide +kernel
theorem dX7_holds_267 : decode cX7_holds 267 = .ok (.goto (-263), 3) := by decide +kernel
theorem dX7_holds_270 : decode cX7_holds 270 = .ok (.aload_n 0, 1) := by decide +kernel
theorem dX7_holds_271 : decode cX7_holds 271 = .ok (.getfield 44, 3) := by decide +kernel
theorem dX7_holds_274 : decode cX7_holds 274 = .ok (.iconst 0, 1) := by decide +kernel
theorem dX7_holds_275 : decode cX7_holds 275 = .ok (.baload, 1) := by decide +kernel
theorem dX7_holds_276 : decode cX7_holds 276 = .ok (.ireturn, 1) := by decide +kernel
theorem dX7_longest_0 : decode cX7_longest 0 = .ok (.lload_n 0, 1) := by decide +kernel
theorem dX7_longest_1 : decode cX7_longest 1 = .ok (.lload_n 2, 1) := by decide +kernel
theorem dX7_longest_2 : decode cX7_longest 2 = .ok (.lcmp, 1) := by decide +kernel
theorem dX7_longest_3 : decode cX7_longest 3 = .ok (.ifCond .le 7, 3) := by decide +kernel
theorem dX7_longest_6 : decode cX7_longest 6 = .ok (.lload_n 0, 1) := by decide +kernel
theorem dX7_longest_7 : decode cX7_longest 7 = .ok (.goto 4, 3) := by decide +kernel
theorem dX7_longest_10 : decode cX7_longest 10 = .ok (.lload_n 2, 1) := by decide +kernel
theorem dX7_longest_11 : decode cX7_longest 11 = .ok (.lstore 6, 2) := by decide +kernel
theorem dX7_longest_13 : decode cX7_longest 13 = .ok (.lload 6, 2) := by decide +kernel
theorem dX7_longest_15 : decode cX7_longest 15 = .ok (.lload 4, 2) := by decide +kernel
theorem dX7_longest_17 : decode cX7_longest 17 = .ok (.lcmp, 1) := by decide +kernel
theorem dX7_longest_18 : decode cX7_longest 18 = .ok (.ifCond .le 8, 3) := by decide +kernel
theorem dX7_longest_21 : decode cX7_longest 21 = .ok (.lload 6, 2) := by decide +kernel
theorem dX7_longest_23 : decode cX7_longest 23 = .ok (.goto 5, 3) := by decide +kernel
theorem dX7_longest_26 : decode cX7_longest 26 = .ok (.lload 4, 2) := by decide +kernel
theorem dX7_longest_28 : decode cX7_longest 28 = .ok (.lreturn, 1) := by decide +kernel
set_option maxRecDepth 20000 in
theorem ggX7_girth_X7_longest : GoodIn wsX7_girth wsX7_longest := goodIn_r _ [5] (by decide +kernel) (by decide +kernel)
set_option maxRecDepth 20000 in
theorem gX7_girth_X7_longest : GoodIn wsX7_girth (va_wsS RX7 201 yX7_longest wsX7_longest) := goodIn_app (goodIn_of _ (by decide +kernel)) ggX7_girth_X7_longest
theorem dX7_girth_0 : decode cX7_girth 0 = .ok (.ldc2_w 112, 3) := by decide +kernel
theorem dX7_girth_3 : decode cX7_girth 3 = .ok (.lload_n 0, 1) := by decide +kernel
theorem dX7_girth_4 : decode cX7_girth 4 = .ok (.lload_n 2, 1) := by decide +kernel
theorem dX7_girth_5 : decode cX7_girth 5 = .ok (.ladd, 1) := by decide +kernel
theorem dX7_girth_6 : decode cX7_girth 6 = .ok (.lload 4, 2) := by decide +kernel
theorem dX7_girth_8 : decode cX7_girth 8 = .ok (.ladd, 1) := by decide +kernel
theorem dX7_girth_9 : decode cX7_girth 9 = .ok (.lmul, 1) := by decide +kernel
theorem dX7_girth_10 : decode cX7_girth 10 = .ok (.lload_n 0, 1) := by decide +kernel
theorem dX7_girth_11 : decode cX7_girth 11 = .ok (.lload_n 2, 1) := by decide +kernel
theorem dX7_girth_12 : decode cX7_girth 12 = .ok (.lload 4, 2) := by decide +kernel
theorem dX7_girth_14 : decode cX7_girth 14 = .ok (.invokestatic 201, 3) := by decide +kernel
theorem dX7_girth_17 : decode cX7_girth 17 = .ok (.lsub, 1) := by decide +kernel
theorem dX7_girth_18 : decode cX7_girth 18 = .ok (.lreturn, 1) := by decide +kernel
set_option maxRecDepth 20000 in
theorem ggX7_volume_X7_up : GoodIn wsX7_volume wsX7_up := goodIn_r _ [5] (by decide +kernel) (by decide +kernel)
set_option maxRecDepth 20000 in
theorem gX7_volume_X7_up : GoodIn wsX7_volume (va_wsS RX7 205 yX7_up wsX7_up) := goodIn_app (goodIn_of _ (by decide +kernel)) ggX7_volume_X7_up
theorem dX7_volume_0 : decode cX7_volume 0 = .ok (.lload_n 0, 1) := by decide +kernel
theorem dX7_volume_1 : decode cX7_volume 1 = .ok (.ldc2_w 48, 3) := by decide +kernel
theorem dX7_volume_4 : decode cX7_volume 4 = .ok (.invokestatic 205, 3) := by decide +kernel
theorem dX7_volume_7 : decode cX7_volume 7 = .ok (.lload_n 2, 1) := by decide +kernel
theorem dX7_volume_8 : decode cX7_volume 8 = .ok (.ldc2_w 48, 3) := by decide +kernel
theorem dX7_volume_11 : decode cX7_volume 11 = .ok (.invokestatic 205, 3) := by decide +kernel
theorem dX7_volume_14 : decode cX7_volume 14 = .ok (.lmul, 1) := by decide +kernel
theorem dX7_volume_15 : decode cX7_volume 15 = .ok (.lload 4, 2) := by decide +kernel
theorem dX7_volume_17 : decode cX7_volume 17 = .ok (.ldc2_w 48, 3) := by decide +kernel
theorem dX7_volume_20 : decode cX7_volume 20 = .ok (.invokestatic 205, 3) := by decide +kernel
theorem dX7_volume_23 : decode cX7_volume 23 = .ok (.lmul, 1) := by decide +kernel
theorem dX7_volume_24 : decode cX7_volume 24 = .ok (.lreturn, 1) := by decide +kernel
set_option maxRecDepth 20000 in
theorem ggX7_bases_X7_bands : GoodIn wsX7_bases wsX7_bands := goodIn_r _ [10, 2, 17, 18, 19, 20, 21, 22, 23, 24, 25, 26, 27, 28, 29, 30, 31, 32, 33, 34, 35] (by decide +kernel) (by decide +kernel)
set_option maxRecDepth 20000 in
theorem gX7_bases_X7_bands : GoodIn wsX7_bases (wsV RX7 132 RX7 yX7_bands wsX7_bands) := goodIn_app (goodIn_of _ (by decide +kernel)) ggX7_bases_X7_bands
set_option maxRecDepth 20000 in
theorem ggX7_bases_X7_placeOf : GoodIn wsX7_bases wsX7_placeOf := goodIn_r _ [13] (by decide +kernel) (by decide +kernel)
set_option maxRecDepth 20000 in
theorem gX7_bases_X7_placeOf : GoodIn wsX7_bases (va_wsS RX7 136 yX7_placeOf wsX7_placeOf) := goodIn_app (goodIn_of _ (by decide +kernel)) ggX7_bases_X7_placeOf
set_option maxRecDepth 20000 in
theorem ggX7_bases_X7_up : GoodIn wsX7_bases wsX7_up := goodIn_r _ [16] (by decide +kernel) (by decide +kernel)
set_option maxRecDepth 20000 in
theorem gX7_bases_X7_up : GoodIn wsX7_bases (va_wsS RX7 205 yX7_up wsX7_up) := goodIn_app (goodIn_of _ (by decide +kernel)) ggX7_bases_X7_up
theorem dX7_bases_0 : decode cX7_bases 0 = .ok (.aload_n 0, 1) := by decide +kernel
theorem dX7_bases_1 : decode cX7_bases 1 = .ok (.getfield 38, 3) := by decide +kernel
theorem dX7_bases_4 : decode cX7_bases 4 = .ok (.bipush 6, 2) := by decide +kernel
theorem dX7_bases_6 : decode cX7_bases 6 = .ok (.laload, 1) := by decide +kernel
theorem dX7_bases_7 : decode cX7_bases 7 = .ok (.lstore_n 2, 1) := by decide +kernel
theorem dX7_bases_8 : decode cX7_bases 8 = .ok (.iconst 0, 1) := by decide +kernel
theorem dX7_bases_9 : decode cX7_bases 9 = .ok (.istore 4, 2) := by decide +kernel
theorem dX7_bases_11 : decode cX7_bases 11 = .ok (.iload 4, 2) := by decide +kernel
theorem dX7_bases_13 : decode cX7_bases 13 = .ok (.aload_n 0, 1) := by decide +kernel
theorem dX7_bases_14 : decode cX7_bases 14 = .ok (.iload_n 1, 1) := by decide +kernel
theorem dX7_bases_15 : decode cX7_bases 15 = .ok (.invokevirtual 132, 3) := by decide +kernel
theorem dX7_bases_18 : decode cX7_bases 18 = .ok (.if_icmp .ge 25, 3) := by decide +kernel
theorem dX7_bases_21 : decode cX7_bases 21 = .ok (.aload_n 0, 1) := by decide +kernel
theorem dX7_bases_22 : decode cX7_bases 22 = .ok (.getfield 7, 3) := by decide +kernel
theorem dX7_bases_25 : decode cX7_bases 25 = .ok (.iload_n 1, 1) := by decide +kernel
theorem dX7_bases_26 : decode cX7_bases 26 = .ok (.iload 4, 2) := by decide +kernel
theorem dX7_bases_28 : decode cX7_bases 28 = .ok (.invokestatic 136, 3) := by decide +kernel
theorem dX7_bases_31 : decode cX7_bases 31 = .ok (.laload, 1) := by decide +kernel
theorem dX7_bases_32 : decode cX7_bases 32 = .ok (.lload_n 2, 1) := by decide +kernel
theorem dX7_bases_33 : decode cX7_bases 33 = .ok (.lcmp, 1) := by decide +kernel
theorem dX7_bases_34 : decode cX7_bases 34 = .ok (.ifCond .ge 9, 3) := by decide +kernel
theorem dX7_bases_37 : decode cX7_bases 37 = .ok (.iinc 4 1, 3) := by decide +kernel
theorem dX7_bases_40 : decode cX7_bases 40 = .ok (.goto (-29), 3) := by decide +kernel
theorem dX7_bases_43 : decode cX7_bases 43 = .ok (.iload 4, 2) := by decide +kernel
theorem dX7_bases_45 : decode cX7_bases 45 = .ok (.aload_n 0, 1) := by decide +kernel
theorem dX7_bases_46 : decode cX7_bases 46 = .ok (.iload_n 1, 1) := by decide +kernel
theorem dX7_bases_47 : decode cX7_bases 47 = .ok (.invokevirtual 132, 3) := by decide +kernel
theorem dX7_bases_50 : decode cX7_bases 50 = .ok (.if_icmp .ge 40, 3) := by decide +kernel
theorem dX7_bases_53 : decode cX7_bases 53 = .ok (.aload_n 0, 1) := by decide +kernel
theorem dX7_bases_54 : decode cX7_bases 54 = .ok (.getfield 38, 3) := by decide +kernel
theorem dX7_bases_57 : decode cX7_bases 57 = .ok (.bipush 7, 2) := by decide +kernel
theorem dX7_bases_59 : decode cX7_bases 59 = .ok (.aload_n 0, 1) := by decide +kernel
theorem dX7_bases_60 : decode cX7_bases 60 = .ok (.getfield 7, 3) := by decide +kernel
theorem dX7_bases_63 : decode cX7_bases 63 = .ok (.iload_n 1, 1) := by decide +kernel
theorem dX7_bases_64 : decode cX7_bases 64 = .ok (.iload 4, 2) := by decide +kernel
theorem dX7_bases_66 : decode cX7_bases 66 = .ok (.invokestatic 136, 3) := by decide +kernel
theorem dX7_bases_69 : decode cX7_bases 69 = .ok (.iconst 1, 1) := by decide +kernel
theorem dX7_bases_70 : decode cX7_bases 70 = .ok (.iadd, 1) := by decide +kernel
theorem dX7_bases_71 : decode cX7_bases 71 = .ok (.laload, 1) := by decide +kernel
theorem dX7_bases_72 : decode cX7_bases 72 = .ok (.lastore, 1) := by decide +kernel
theorem dX7_bases_73 : decode cX7_bases 73 = .ok (.aload_n 0, 1) := by decide +kernel
theorem dX7_bases_74 : decode cX7_bases 74 = .ok (.getfield 38, 3) := by decide +kernel
theorem dX7_bases_77 : decode cX7_bases 77 = .ok (.bipush 10, 2) := by decide +kernel
theorem dX7_bases_79 : decode cX7_bases 79 = .ok (.ldc2_w 48, 3) := by decide +kernel
theorem dX7_bases_82 : decode cX7_bases 82 = .ok (.iload 4, 2) := by decide +kernel
theorem dX7_bases_84 : decode cX7_bases 84 = .ok (.i2l, 1) := by decide +kernel
theorem dX7_bases_85 : decode cX7_bases 85 = .ok (.ladd, 1) := by decide +kernel
theorem dX7_bases_86 : decode cX7_bases 86 = .ok (.lastore, 1) := by decide +kernel
theorem dX7_bases_87 : decode cX7_bases 87 = .ok (.goto 72, 3) := by decide +kernel
theorem dX7_bases_90 : decode cX7_bases 90 = .ok (.aload_n 0, 1) := by decide +kernel
theorem dX7_bases_91 : decode cX7_bases 91 = .ok (.getfield 38, 3) := by decide +kernel
theorem dX7_bases_94 : decode cX7_bases 94 = .ok (.bipush 7, 2) := by decide +kernel
theorem dX7_bases_96 : decode cX7_bases 96 = .ok (.aload_n 0, 1) := by decide +kernel
theorem dX7_bases_97 : decode cX7_bases 97 = .ok (.getfield 7, 3) := by decide +kernel
theorem dX7_bases_100 : decode cX7_bases 100 = .ok (.iload_n 1, 1) := by decide +kernel
theorem dX7_bases_101 : decode cX7_bases 101 = .ok (.iload 4, 2) := by decide +kernel
theorem dX7_bases_103 : decode cX7_bases 103 = .ok (.iconst 1, 1) := by decide +kernel
theorem dX7_bases_104 : decode cX7_bases 104 = .ok (.isub, 1) := by decide +kernel
theorem dX7_bases_105 : decode cX7_bases 105 = .ok (.invokestatic 136, 3) := by decide +kernel
theorem dX7_bases_108 : decode cX7_bases 108 = .ok (.iconst 1, 1) := by decide +kernel
theorem dX7_bases_109 : decode cX7_bases 109 = .ok (.iadd, 1) := by decide +kernel
theorem dX7_bases_110 : decode cX7_bases 110 = .ok (.laload, 1) := by decide +kernel
theorem dX7_bases_111 : decode cX7_bases 111 = .ok (.aload_n 0, 1) := by decide +kernel
theorem dX7_bases_112 : decode cX7_bases 112 = .ok (.getfield 7, 3) := by decide +kernel
theorem dX7_bases_115 : decode cX7_bases 115 = .ok (.bipush 24, 2) := by decide +kernel
theorem dX7_bases_117 : decode cX7_bases 117 = .ok (.bipush 14, 2) := by decide +kernel
theorem dX7_bases_119 : decode cX7_bases 119 = .ok (.iload_n 1, 1) := by decide +kernel
theorem dX7_bases_120 : decode cX7_bases 120 = .ok (.imul, 1) := by decide +kernel
theorem dX7_bases_121 : decode cX7_bases 121 = .ok (.iadd, 1) := by decide +kernel
theorem dX7_bases_122 : decode cX7_bases 122 = .ok (.iconst 1, 1) := by decide +kernel
theorem dX7_bases_123 : decode cX7_bases 123 = .ok (.iadd, 1) := by decide +kernel
theorem dX7_bases_124 : decode cX7_bases 124 = .ok (.laload, 1) := by decide +kernel
theorem dX7_bases_125 : decode cX7_bases 125 = .ok (.lload_n 2, 1) := by decide +kernel
theorem dX7_bases_126 : decode cX7_bases 126 = .ok (.aload_n 0, 1) := by decide +kernel
theorem dX7_bases_127 : decode cX7_bases 127 = .ok (.getfield 7, 3) := by decide +kernel
theorem dX7_bases_130 : decode cX7_bases 130 = .ok (.iload_n 1, 1) := by decide +kernel
theorem dX7_bases_131 : decode cX7_bases 131 = .ok (.iload 4, 2) := by decide +kernel
theorem dX7_bases_133 : decode cX7_bases 133 = .ok (.iconst 1, 1) := by decide +kernel
theorem dX7_bases_134 : decode cX7_bases 134 = .ok (.isub, 1) := by decide +kernel
theorem dX7_bases_135 : decode cX7_bases 135 = .ok (.invokestatic 136, 3) := by decide +kernel
theorem dX7_bases_138 : decode cX7_bases 138 = .ok (.laload, 1) := by decide +kernel
theorem dX7_bases_139 : decode cX7_bases 139 = .ok (.lsub, 1) := by decide +kernel
theorem dX7_bases_140 : decode cX7_bases 140 = .ok (.ldc2_w 73, 3) := by decide +kernel
theorem dX7_bases_143 : decode cX7_bases 143 = .ok (.invokestatic 205, 3) := by decide +kernel
theorem dX7_bases_146 : decode cX7_bases 146 = .ok (.lmul, 1) := by decide +kernel
theorem dX7_bases_147 : decode cX7_bases 147 = .ok (.ladd, 1) := by decide +kernel
theorem dX7_bases_148 : decode cX7_bases 148 = .ok (.lastore, 1) := by decide +kernel
theorem dX7_bases_149 : decode cX7_bases 149 = .ok (.aload_n 0, 1) := by decide +kernel
theorem dX7_bases_150 : decode cX7_bases 150 = .ok (.getfield 38, 3) := by decide +kernel
theorem dX7_bases_153 : decode cX7_bases 153 = .ok (.bipush 10, 2) := by decide +kernel
theorem dX7_bases_155 : decode cX7_bases 155 = .ok (.ldc2_w 67, 3) := by decide +kernel
theorem dX7_bases_158 : decode cX7_bases 158 = .ok (.lastore, 1) := by decide +kernel
theorem dX7_bases_159 : decode cX7_bases 159 = .ok (.return_, 1) := by decide +kernel
set_option maxRecDepth 20000 in
theorem ggX7_works_X7_volume : GoodIn wsX7_works wsX7_volume := goodIn_r _ [13, 14, 15, 16, 12, 17] (by decide +kernel) (by decide +kernel)
set_option maxRecDepth 20000 in
theorem gX7_works_X7_volume : GoodIn wsX7_works (va_wsS RX7 208 yX7_volume wsX7_volume) := goodIn_app (goodIn_of _ (by decide +kernel)) ggX7_works_X7_volume
set_option maxRecDepth 20000 in
theorem ggX7_works_X7_up : GoodIn wsX7_works wsX7_up := goodIn_r _ [17] (by decide +kernel) (by decide +kernel)
set_option maxRecDepth 20000 in
theorem gX7_works_X7_up : GoodIn wsX7_works (va_wsS RX7 205 yX7_up wsX7_up) := goodIn_app (goodIn_of _ (by decide +kernel)) ggX7_works_X7_up
set_option maxRecDepth 20000 in
theorem ggX7_works_X7_bases : GoodIn wsX7_works wsX7_bases := goodIn_r _ [21, 1, 3, 14, 2, 22, 23, 24, 25, 12, 26, 27, 28, 29, 15, 16, 17, 46, 47, 48, 49, 50, 51, 52, 53, 54, 55, 56, 57, 58, 59, 60, 61, 62, 63, 64] (by decide +kernel) (by decide +kernel)
set_option maxRecDepth 20000 in
theorem gX7_works_X7_bases : GoodIn wsX7_works (wsV RX7 211 RX7 yX7_bases wsX7_bases) := goodIn_app (goodIn_of _ (by decide +kernel)) ggX7_works_X7_bases
set_option maxRecDepth 20000 in
theorem ggX7_works_X7_girth : GoodIn wsX7_works wsX7_girth := goodIn_r _ [32, 4, 33, 34, 12, 35] (by decide +kernel) (by decide +kernel)
set_option maxRecDepth 20000 in
theorem gX7_works_X7_girth : GoodIn wsX7_works (va_wsS RX7 214 yX7_girth wsX7_girth) := goodIn_app (goodIn_of _ (by decide +kernel)) ggX7_works_X7_girth
set_option maxRecDepth 20000 in
theorem ggX7_works_X7_longest : GoodIn wsX7_works wsX7_longest := goodIn_r _ [35] (by decide +kernel) (by decide +kernel)
set_option maxRecDepth 20000 in
theorem gX7_works_X7_longest : GoodIn wsX7_works (va_wsS RX7 201 yX7_longest wsX7_longest) := goodIn_app (goodIn_of _ (by decide +kernel)) ggX7_works_X7_longest
set_option maxRecDepth 20000 in
theorem ggX7_works_X7_holds : GoodIn wsX7_works wsX7_holds := goodIn_r _ [39, 40, 41, 42, 6, 46, 47, 48, 49, 50, 51, 52, 53, 54, 55, 56, 57, 58, 59, 60, 61, 62, 63, 64] (by decide +kernel) (by decide +kernel)
set_option maxRecDepth 20000 in
theorem gX7_works_X7_holds : GoodIn wsX7_works (wsV RX7 217 RX7 yX7_holds wsX7_holds) := goodIn_app (goodIn_of _ (by decide +kernel)) ggX7_works_X7_holds
set_option maxRecDepth 20000 in
theorem ggX7_works_X7_div : GoodIn wsX7_works wsX7_div := goodIn_r _ [45] (by decide +kernel) (by decide +kernel)
set_option maxRecDepth 20000 in
theorem gX7_works_X7_div : GoodIn wsX7_works (va_wsS RX7 94 yX7_div wsX7_div) := goodIn_app (goodIn_of _ (by decide +kernel)) ggX7_works_X7_div
theorem dX7_works_0 : decode cX7_works 0 = .ok (.aload_n 0, 1) := by decide +kernel
theorem dX7_works_1 : decode cX7_works 1 = .ok (.getfield 38, 3) := by decide +kernel
theorem dX7_works_4 : decode cX7_works 4 = .ok (.iconst 0, 1) := by decide +kernel
theorem dX7_works_5 : decode cX7_works 5 = .ok (.lload_n 1, 1) := by decide +kernel
theorem dX7_works_6 : decode cX7_works 6 = .ok (.lastore, 1) := by decide +kernel
theorem dX7_works_7 : decode cX7_works 7 = .ok (.aload_n 0, 1) := by decide +kernel
theorem dX7_works_8 : decode cX7_works 8 = .ok (.getfield 38, 3) := by decide +kernel
theorem dX7_works_11 : decode cX7_works 11 = .ok (.iconst 1, 1) := by decide +kernel
theorem dX7_works_12 : decode cX7_works 12 = .ok (.lload_n 3, 1) := by decide +kernel
theorem dX7_works_13 : decode cX7_works 13 = .ok (.lastore, 1) := by decide +kernel
theorem dX7_works_14 : decode cX7_works 14 = .ok (.aload_n 0, 1) := by decide +kernel
theorem dX7_works_15 : decode cX7_works 15 = .ok (.getfield 38, 3) := by decide +kernel
theorem dX7_works_18 : decode cX7_works 18 = .ok (.iconst 2, 1) := by decide +kernel
theorem dX7_works_19 : decode cX7_works 19 = .ok (.lload 5, 2) := by decide +kernel
theorem dX7_works_21 : decode cX7_works 21 = .ok (.lastore, 1) := by decide +kernel
theorem dX7_works_22 : decode cX7_works 22 = .ok (.aload_n 0, 1) := by decide +kernel
theorem dX7_works_23 : decode cX7_works 23 = .ok (.getfield 38, 3) := by decide +kernel
theorem dX7_works_26 : decode cX7_works 26 = .ok (.iconst 3, 1) := by decide +kernel
theorem dX7_works_27 : decode cX7_works 27 = .ok (.lload 7, 2) := by decide +kernel
theorem dX7_works_29 : decode cX7_works 29 = .ok (.lastore, 1) := by decide +kernel
theorem dX7_works_30 : decode cX7_works 30 = .ok (.aload_n 0, 1) := by decide +kernel
theorem dX7_works_31 : decode cX7_works 31 = .ok (.getfield 38, 3) := by decide +kernel
theorem dX7_works_34 : decode cX7_works 34 = .ok (.iconst 4, 1) := by decide +kernel
theorem dX7_works_35 : decode cX7_works 35 = .ok (.iload 9, 2) := by decide +kernel
theorem dX7_works_37 : decode cX7_works 37 = .ok (.i2l, 1) := by decide +kernel
theorem dX7_works_38 : decode cX7_works 38 = .ok (.lastore, 1) := by decide +kernel
theorem dX7_works_39 : decode cX7_works 39 = .ok (.aload_n 0, 1) := by decide +kernel
theorem dX7_works_40 : decode cX7_works 40 = .ok (.getfield 38, 3) := by decide +kernel
theorem dX7_works_43 : decode cX7_works 43 = .ok (.iconst 5, 1) := by decide +kernel
theorem dX7_works_44 : decode cX7_works 44 = .ok (.lload_n 3, 1) := by decide +kernel
theorem dX7_works_45 : decode cX7_works 45 = .ok (.lload 5, 2) := by decide +kernel
theorem dX7_works_47 : decode cX7_works 47 = .ok (.lload 7, 2) := by decide +kernel
theorem dX7_works_49 : decode cX7_works 49 = .ok (.invokestatic 208, 3) := by decide +kernel
theorem dX7_works_52 : decode cX7_works 52 = .ok (.ldc2_w 73, 3) := by decide +kernel
theorem dX7_works_55 : decode cX7_works 55 = .ok (.lmul, 1) := by decide +kernel
theorem dX7_works_56 : decode cX7_works 56 = .ok (.aload_n 0, 1) := by decide +kernel
theorem dX7_works_57 : decode cX7_works 57 = .ok (.getfield 7, 3) := by decide +kernel
theorem dX7_works_60 : decode cX7_works 60 = .ok (.bipush 6, 2) := by decide +kernel
theorem dX7_works_62 : decode cX7_works 62 = .ok (.laload, 1) := by decide +kernel
theorem dX7_works_63 : decode cX7_works 63 = .ok (.invokestatic 205, 3) := by decide +kernel
theorem dX7_works_66 : decode cX7_works 66 = .ok (.lastore, 1) := by decide +kernel
theorem dX7_works_67 : decode cX7_works 67 = .ok (.aload_n 0, 1) := by decide +kernel
theorem dX7_works_68 : decode cX7_works 68 = .ok (.getfield 38, 3) := by decide +kernel
theorem dX7_works_71 : decode cX7_works 71 = .ok (.iconst 5, 1) := by decide +kernel
theorem dX7_works_72 : decode cX7_works 72 = .ok (.laload, 1) := by decide +kernel
theorem dX7_works_73 : decode cX7_works 73 = .ok (.lload_n 1, 1) := by decide +kernel
theorem dX7_works_74 : decode cX7_works 74 = .ok (.lcmp, 1) := by decide +kernel
theorem dX7_works_75 : decode cX7_works 75 = .ok (.ifCond .le 12, 3) := by decide +kernel
theorem dX7_works_78 : decode cX7_works 78 = .ok (.aload_n 0, 1) := by decide +kernel
theorem dX7_works_79 : decode cX7_works 79 = .ok (.getfield 38, 3) := by decide +kernel
theorem dX7_works_82 : decode cX7_works 82 = .ok (.iconst 5, 1) := by decide +kernel
theorem dX7_works_83 : decode cX7_works 83 = .ok (.laload, 1) := by decide +kernel
theorem dX7_works_84 : decode cX7_works 84 = .ok (.goto 4, 3) := by decide +kernel
theorem dX7_works_87 : decode cX7_works 87 = .ok (.lload_n 1, 1) := by decide +kernel
theorem dX7_works_88 : decode cX7_works 88 = .ok (.lstore 10, 2) := by decide +kernel
theorem dX7_works_90 : decode cX7_works 90 = .ok (.aload_n 0, 1) := by decide +kernel
theorem dX7_works_91 : decode cX7_works 91 = .ok (.getfield 38, 3) := by decide +kernel
theorem dX7_works_94 : decode cX7_works 94 = .ok (.bipush 6, 2) := by decide +kernel
theorem dX7_works_96 : decode cX7_works 96 = .ok (.aload_n 0, 1) := by decide +kernel
theorem dX7_works_97 : decode cX7_works 97 = .ok (.getfield 7, 3) := by decide +kernel
theorem dX7_works_100 : decode cX7_works 100 = .ok (.bipush 7, 2) := by decide +kernel
theorem dX7_works_102 : decode cX7_works 102 = .ok (.laload, 1) := by decide +kernel
theorem dX7_works_103 : decode cX7_works 103 = .ok (.lload 10, 2) := by decide +kernel
theorem dX7_works_105 : decode cX7_works 105 = .ok (.aload_n 0, 1) := by decide +kernel
theorem dX7_works_106 : decode cX7_works 106 = .ok (.getfield 7, 3) := by decide +kernel
theorem dX7_works_109 : decode cX7_works 109 = .ok (.bipush 7, 2) := by decide +kernel
theorem dX7_works_111 : decode cX7_works 111 = .ok (.laload, 1) := by decide +kernel
theorem dX7_works_112 : decode cX7_works 112 = .ok (.invokestatic 205, 3) := by decide +kernel
theorem dX7_works_115 : decode cX7_works 115 = .ok (.lmul, 1) := by decide +kernel
theorem dX7_works_116 : decode cX7_works 116 = .ok (.lastore, 1) := by decide +kernel
theorem dX7_works_117 : decode cX7_works 117 = .ok (.aload_n 0, 1) := by decide +kernel
theorem dX7_works_118 : decode cX7_works 118 = .ok (.getfield 38, 3) := by decide +kernel
theorem dX7_works_121 : decode cX7_works 121 = .ok (.bipush 9, 2) := by decide +kernel
theorem dX7_works_123 : decode cX7_works 123 = .ok (.lload_n 1, 1) := by decide +kernel
theorem dX7_works_124 : decode cX7_works 124 = .ok (.aload_n 0, 1) := by decide +kernel
theorem dX7_works_125 : decode cX7_works 125 = .ok (.getfield 38, 3) := by decide +kernel
theorem dX7_works_128 : decode cX7_works 128 = .ok (.iconst 5, 1) := by decide +kernel
theorem dX7_works_129 : decode cX7_works 129 = .ok (.laload, 1) := by decide +kernel
theorem dX7_works_130 : decode cX7_works 130 = .ok (.lcmp, 1) := by decide +kernel
theorem dX7_works_131 : decode cX7_works 131 = .ok (.ifCond .le 7, 3) := by decide +kernel
theorem dX7_works_134 : decode cX7_works 134 = .ok (.lconst 1, 1) := by decide +kernel
theorem dX7_works_135 : decode cX7_works 135 = .ok (.goto 23, 3) := by decide +kernel
theorem dX7_works_138 : decode cX7_works 138 = .ok (.lload_n 1, 1) := by decide +kernel
theorem dX7_works_139 : decode cX7_works 139 = .ok (.aload_n 0, 1) := by decide +kernel
theorem dX7_works_140 : decode cX7_works 140 = .ok (.getfield 38, 3) := by decide +kernel
theorem dX7_works_143 : decode cX7_works 143 = .ok (.iconst 5, 1) := by decide +kernel
theorem dX7_works_144 : decode cX7_works 144 = .ok (.laload, 1) := by decide +kernel
theorem dX7_works_145 : decode cX7_works 145 = .ok (.lcmp, 1) := by decide +kernel
theorem dX7_works_146 : decode cX7_works 146 = .ok (.ifCond .ge 9, 3) := by decide +kernel
theorem dX7_works_149 : decode cX7_works 149 = .ok (.ldc2_w 112, 3) := by decide +kernel
theorem dX7_works_152 : decode cX7_works 152 = .ok (.goto 6, 3) := by decide +kernel
theorem dX7_works_155 : decode cX7_works 155 = .ok (.ldc2_w 98, 3) := by decide +kernel
theorem dX7_works_158 : decode cX7_works 158 = .ok (.lastore, 1) := by decide +kernel
theorem dX7_works_159 : decode cX7_works 159 = .ok (.aload_n 0, 1) := by decide +kernel
theorem dX7_works_160 : decode cX7_works 160 = .ok (.getfield 38, 3) := by decide +kernel
theorem dX7_works_163 : decode cX7_works 163 = .ok (.bipush 11, 2) := by decide +kernel
theorem dX7_works_165 : decode cX7_works 165 = .ok (.lconst 0, 1) := by decide +kernel
theorem dX7_works_166 : decode cX7_works 166 = .ok (.lastore, 1) := by decide +kernel
theorem dX7_works_167 : decode cX7_works 167 = .ok (.aload_n 0, 1) := by decide +kernel
theorem dX7_works_168 : decode cX7_works 168 = .ok (.iload 9, 2) := by decide +kernel
theorem dX7_works_170 : decode cX7_works 170 = .ok (.invokevirtual 211, 3) := by decide +kernel
theorem dX7_works_173 : decode cX7_works 173 = .ok (.aload_n 0, 1) := by decide +kernel
theorem dX7_works_174 : decode cX7_works 174 = .ok (.getfield 41, 3) := by decide +kernel
theorem dX7_works_177 : decode cX7_works 177 = .ok (.iconst 0, 1) := by decide +kernel
theorem dX7_works_178 : decode cX7_works 178 = .ok (.aload_n 0, 1) := by decide +kernel
theorem dX7_works_179 : decode cX7_works 179 = .ok (.getfield 38, 3) := by decide +kernel
theorem dX7_works_182 : decode cX7_works 182 = .ok (.bipush 6, 2) := by decide +kernel
theorem dX7_works_184 : decode cX7_works 184 = .ok (.laload, 1) := by decide +kernel
theorem dX7_works_185 : decode cX7_works 185 = .ok (.lastore, 1) := by decide +kernel
theorem dX7_works_186 : decode cX7_works 186 = .ok (.aload_n 0, 1) := by decide +kernel
theorem dX7_works_187 : decode cX7_works 187 = .ok (.getfield 41, 3) := by decide +kernel
theorem dX7_works_190 : decode cX7_works 190 = .ok (.iconst 1, 1) := by decide +kernel
theorem dX7_works_191 : decode cX7_works 191 = .ok (.lload_n 1, 1) := by decide +kernel
theorem dX7_works_192 : decode cX7_works 192 = .ok (.lastore, 1) := by decide +kernel
theorem dX7_works_193 : decode cX7_works 193 = .ok (.aload_n 0, 1) := by decide +kernel
theorem dX7_works_194 : decode cX7_works 194 = .ok (.getfield 41, 3) := by decide +kernel
theorem dX7_works_197 : decode cX7_works 197 = .ok (.iconst 2, 1) := by decide +kernel
theorem dX7_works_198 : decode cX7_works 198 = .ok (.aload_n 0, 1) := by decide +kernel
theorem dX7_works_199 : decode cX7_works 199 = .ok (.getfield 38, 3) := by decide +kernel
theorem dX7_works_202 : decode cX7_works 202 = .ok (.iconst 5, 1) := by decide +kernel
theorem dX7_works_203 : decode cX7_works 203 = .ok (.laload, 1) := by decide +kernel
theorem dX7_works_204 : decode cX7_works 204 = .ok (.lastore, 1) := by decide +kernel
theorem dX7_works_205 : decode cX7_works 205 = .ok (.aload_n 0, 1) := by decide +kernel
theorem dX7_works_206 : decode cX7_works 206 = .ok (.getfield 41, 3) := by decide +kernel
theorem dX7_works_209 : decode cX7_works 209 = .ok (.iconst 3, 1) := by decide +kernel
theorem dX7_works_210 : decode cX7_works 210 = .ok (.lload_n 3, 1) := by decide +kernel
theorem dX7_works_211 : decode cX7_works 211 = .ok (.lload 5, 2) := by decide +kernel
theorem dX7_works_213 : decode cX7_works 213 = .ok (.lload 7, 2) := by decide +kernel
theorem dX7_works_215 : decode cX7_works 215 = .ok (.invokestatic 214, 3) := by decide +kernel
theorem dX7_works_218 : decode cX7_works 218 = .ok (.lastore, 1) := by decide +kernel
theorem dX7_works_219 : decode cX7_works 219 = .ok (.aload_n 0, 1) := by decide +kernel
theorem dX7_works_220 : decode cX7_works 220 = .ok (.getfield 41, 3) := by decide +kernel
theorem dX7_works_223 : decode cX7_works 223 = .ok (.iconst 4, 1) := by decide +kernel
theorem dX7_works_224 : decode cX7_works 224 = .ok (.lload_n 3, 1) := by decide +kernel
theorem dX7_works_225 : decode cX7_works 225 = .ok (.lload 5, 2) := by decide +kernel
theorem dX7_works_227 : decode cX7_works 227 = .ok (.lload 7, 2) := by decide +kernel
theorem dX7_works_229 : decode cX7_works 229 = .ok (.invokestatic 201, 3) := by decide +kernel
theorem dX7_works_232 : decode cX7_works 232 = .ok (.lastore, 1) := by decide +kernel
theorem dX7_works_233 : decode cX7_works 233 = .ok (.aload_n 0, 1) := by decide +kernel
theorem dX7_works_234 : decode cX7_works 234 = .ok (.getfield 41, 3) := by decide +kernel
theorem dX7_works_237 : decode cX7_works 237 = .ok (.iconst 5, 1) := by decide +kernel
theorem dX7_works_238 : decode cX7_works 238 = .ok (.iload 9, 2) := by decide +kernel
theorem dX7_works_240 : decode cX7_works 240 = .ok (.i2l, 1) := by decide +kernel
theorem dX7_works_241 : decode cX7_works 241 = .ok (.lastore, 1) := by decide +kernel
theorem dX7_works_242 : decode cX7_works 242 = .ok (.aload_n 0, 1) := by decide +kernel
theorem dX7_works_243 : decode cX7_works 243 = .ok (.getfield 38, 3) := by decide +kernel
theorem dX7_works_246 : decode cX7_works 246 = .ok (.bipush 7, 2) := by decide +kernel
theorem dX7_works_248 : decode cX7_works 248 = .ok (.laload, 1) := by decide +kernel
theorem dX7_works_249 : decode cX7_works 249 = .ok (.lstore 12, 2) := by decide +kernel
theorem dX7_works_251 : decode cX7_works 251 = .ok (.iconst 0, 1) := by decide +kernel
theorem dX7_works_252 : decode cX7_works 252 = .ok (.istore 14, 2) := by decide +kernel
theorem dX7_works_254 : decode cX7_works 254 = .ok (.iload 14, 2) := by decide +kernel
theorem dX7_works_256 : decode cX7_works 256 = .ok (.i2l, 1) := by decide +kernel
theorem dX7_works_257 : decode cX7_works 257 = .ok (.aload_n 0, 1) := by decide +kernel
theorem dX7_works_258 : decode cX7_works 258 = .ok (.getfield 7, 3) := by decide +kernel
theorem dX7_works_261 : decode cX7_works 261 = .ok (.bipush 18, 2) := by decide +kernel
theorem dX7_works_263 : decode cX7_works 263 = .ok (.laload, 1) := by decide +kernel
theorem dX7_works_264 : decode cX7_works 264 = .ok (.lcmp, 1) := by decide +kernel
theorem dX7_works_265 : decode cX7_works 265 = .ok (.ifCond .ge 133, 3) := by decide +kernel
theorem dX7_works_268 : decode cX7_works 268 = .ok (.aload_n 0, 1) := by decide +kernel
theorem dX7_works_269 : decode cX7_works 269 = .ok (.iload 14, 2) := by decide +kernel
theorem dX7_works_271 : decode cX7_works 271 = .ok (.invokevirtual 217, 3) := by decide +kernel
theorem dX7_works_274 : decode cX7_works 274 = .ok (.ifCond .eq 118, 3) := by decide +kernel
theorem dX7_works_277 : decode cX7_works 277 = .ok (.aload_n 0, 1) := by decide +kernel
theorem dX7_works_278 : decode cX7_works 278 = .ok (.getfield 38, 3) := by decide +kernel
theorem dX7_works_281 : decode cX7_works 281 = .ok (.bipush 11, 2) := by decide +kernel
theorem dX7_works_283 : decode cX7_works 283 = .ok (.dup2, 1) := by decide +kernel
theorem dX7_works_284 : decode cX7_works 284 = .ok (.laload, 1) := by decide +kernel
theorem dX7_works_285 : decode cX7_works 285 = .ok (.lconst 1, 1) := by decide +kernel
theorem dX7_works_286 : decode cX7_works 286 = .ok (.iload 14, 2) := by decide +kernel
theorem dX7_works_288 : decode cX7_works 288 = .ok (.lshl, 1) := by decide +kernel
theorem dX7_works_289 : decode cX7_works 289 = .ok (.lor, 1) := by decide +kernel
theorem dX7_works_290 : decode cX7_works 290 = .ok (.lastore, 1) := by decide +kernel
theorem dX7_works_291 : decode cX7_works 291 = .ok (.aload_n 0, 1) := by decide +kernel
theorem dX7_works_292 : decode cX7_works 292 = .ok (.getfield 29, 3) := by decide +kernel
theorem dX7_works_295 : decode cX7_works 295 = .ok (.iload 14, 2) := by decide +kernel
theorem dX7_works_297 : decode cX7_works 297 = .ok (.iaload, 1) := by decide +kernel
theorem dX7_works_298 : decode cX7_works 298 = .ok (.bipush 43, 2) := by decide +kernel
theorem dX7_works_300 : decode cX7_works 300 = .ok (.if_icmp .ne 17, 3) := by decide +kernel
theorem dX7_works_303 : decode cX7_works 303 = .ok (.lload 12, 2) := by decide +kernel
theorem dX7_works_305 : decode cX7_works 305 = .ok (.aload_n 0, 1) := by decide +kernel
theorem dX7_works_306 : decode cX7_works 306 = .ok (.getfield 32, 3) := by decide +kernel
theorem dX7_works_309 : decode cX7_works 309 = .ok (.iload 14, 2) := by decide +kernel
theorem dX7_works_311 : decode cX7_works 311 = .ok (.iaload, 1) := by decide +kernel
theorem dX7_works_312 : decode cX7_works 312 = .ok (.i2l, 1) := by decide +kernel
theorem dX7_works_313 : decode cX7_works 313 = .ok (.ladd, 1) := by decide +kernel
theorem dX7_works_314 : decode cX7_works 314 = .ok (.goto 46, 3) := by decide +kernel
theorem dX7_works_317 : decode cX7_works 317 = .ok (.aload_n 0, 1) := by decide +kernel
theorem dX7_works_318 : decode cX7_works 318 = .ok (.getfield 29, 3) := by decide +kernel
theorem dX7_works_321 : decode cX7_works 321 = .ok (.iload 14, 2) := by decide +kernel
theorem dX7_works_323 : decode cX7_works 323 = .ok (.iaload, 1) := by decide +kernel
theorem dX7_works_324 : decode cX7_works 324 = .ok (.bipush 45, 2) := by decide +kernel
theorem dX7_works_326 : decode cX7_works 326 = .ok (.if_icmp .ne 17, 3) := by decide +kernel
theorem dX7_works_329 : decode cX7_works 329 = .ok (.lload 12, 2) := by decide +kernel
theorem dX7_works_331 : decode cX7_works 331 = .ok (.aload_n 0, 1) := by decide +kernel
theorem dX7_works_332 : decode cX7_works 332 = .ok (.getfield 32, 3) := by decide +kernel
theorem dX7_works_335 : decode cX7_works 335 = .ok (.iload 14, 2) := by decide +kernel
theorem dX7_works_337 : decode cX7_works 337 = .ok (.iaload, 1) := by decide +kernel
theorem dX7_works_338 : decode cX7_works 338 = .ok (.i2l, 1) := by decide +kernel
theorem dX7_works_339 : decode cX7_works 339 = .ok (.lsub, 1) := by decide +kernel
theorem dX7_works_340 : decode cX7_works 340 = .ok (.goto 20, 3) := by decide +kernel
theorem dX7_works_343 : decode cX7_works 343 = .ok (.lload 12, 2) := by decide +kernel
theorem dX7_works_345 : decode cX7_works 345 = .ok (.aload_n 0, 1) := by decide +kernel
theorem dX7_works_346 : decode cX7_works 346 = .ok (.getfield 32, 3) := by decide +kernel
theorem dX7_works_349 : decode cX7_works 349 = .ok (.iload 14, 2) := by decide +kernel
theorem dX7_works_351 : decode cX7_works 351 = .ok (.iaload, 1) := by decide +kernel
theorem dX7_works_352 : decode cX7_works 352 = .ok (.i2l, 1) := by decide +kernel
theorem dX7_works_353 : decode cX7_works 353 = .ok (.lmul, 1) := by decide +kernel
theorem dX7_works_354 : decode cX7_works 354 = .ok (.ldc2_w 73, 3) := by decide +kernel
theorem dX7_works_357 : decode cX7_works 357 = .ok (.invokestatic 94, 3) := by decide +kernel
theorem dX7_works_360 : decode cX7_works 360 = .ok (.lstore 12, 2) := by decide +kernel
theorem dX7_works_362 : decode cX7_works 362 = .ok (.lload 12, 2) := by decide +kernel
theorem dX7_works_364 : decode cX7_works 364 = .ok (.lconst 0, 1) := by decide +kernel
theorem dX7_works_365 : decode cX7_works 365 = .ok (.lcmp, 1) := by decide +kernel
theorem dX7_works_366 : decode cX7_works 366 = .ok (.ifCond .ge 7, 3) := by decide +kernel
theorem dX7_works_369 : decode cX7_works 369 = .ok (.lconst 0, 1) := by decide +kernel
theorem dX7_works_370 : decode cX7_works 370 = .ok (.goto 20, 3) := by decide +kernel
theorem dX7_works_373 : decode cX7_works 373 = .ok (.lload 12, 2) := by decide +kernel
theorem dX7_works_375 : decode cX7_works 375 = .ok (.ldc2_w 220, 3) := by decide +kernel
theorem dX7_works_378 : decode cX7_works 378 = .ok (.lcmp, 1) := by decide +kernel
theorem dX7_works_379 : decode cX7_works 379 = .ok (.ifCond .le 9, 3) := by decide +kernel
theorem dX7_works_382 : decode cX7_works 382 = .ok (.ldc2_w 220, 3) := by decide +kernel
theorem dX7_works_385 : decode cX7_works 385 = .ok (.goto 5, 3) := by decide +kernel
theorem dX7_works_388 : decode cX7_works 388 = .ok (.lload 12, 2) := by decide +kernel
theorem dX7_works_390 : decode cX7_works 390 = .ok (.lstore 12, 2) := by decide +kernel
theorem dX7_works_392 : decode cX7_works 392 = .ok (.iinc 14 1, 3) := by decide +kernel
theorem dX7_works_395 : decode cX7_works 395 = .ok (.goto (-141), 3) := by decide +kernel
theorem dX7_works_398 : decode cX7_works 398 = .ok (.aload_n 0, 1) := by decide +kernel
theorem dX7_works_399 : decode cX7_works 399 = .ok (.getfield 38, 3) := by decide +kernel
theorem dX7_works_402 : decode cX7_works 402 = .ok (.bipush 8, 2) := by decide +kernel
theorem dX7_works_404 : decode cX7_works 404 = .ok (.lload 12, 2) := by decide +kernel
theorem dX7_works_406 : decode cX7_works 406 = .ok (.lastore, 1) := by decide +kernel
theorem dX7_works_407 : decode cX7_works 407 = .ok (.lload 12, 2) := by decide +kernel
theorem dX7_works_409 : decode cX7_works 409 = .ok (.lreturn, 1) := by decide +kernel
set_option maxRecDepth 20000 in
theorem ggX7_isSide_X7_in : GoodIn wsX7_isSide wsX7_in := goodIn_r _ [5] (by decide +kernel) (by decide +kernel)
set_option maxRecDepth 20000 in
theorem gX7_isSide_X7_in : GoodIn wsX7_isSide (va_wsS RX7 69 yX7_in wsX7_in) := goodIn_app (goodIn_of _ (by decide +kernel)) ggX7_isSide_X7_in
theorem dX7_isSide_0 : decode cX7_isSide 0 = .ok (.iload_n 0, 1) := by decide +kernel
theorem dX7_isSide_1 : decode cX7_isSide 1 = .ok (.i2l, 1) := by decide +kernel
theorem dX7_isSide_2 : decode cX7_isSide 2 = .ok (.lconst 1, 1) := by decide +kernel
theorem dX7_isSide_3 : decode cX7_isSide 3 = .ok (.ldc2_w 222, 3) := by decide +kernel
theorem dX7_isSide_6 : decode cX7_isSide 6 = .ok (.invokestatic 69, 3) := by decide +kernel
theorem dX7_isSide_9 : decode cX7_isSide 9 = .ok (.ireturn, 1) := by decide +kernel
set_option maxRecDepth 20000 in
theorem ggX7_take_X7_isSide : GoodIn wsX7_take wsX7_isSide := goodIn_r _ [10, 11, 12, 13, 9, 14] (by decide +kernel) (by decide +kernel)
set_option maxRecDepth 20000 in
theorem gX7_take_X7_isSide : GoodIn wsX7_take (va_wsS RX7 224 yX7_isSide wsX7_isSide) := goodIn_app (goodIn_of _ (by decide +kernel)) ggX7_take_X7_isSide
set_option maxRecDepth 20000 in
theorem ggX7_take_X7_isZone : GoodIn wsX7_take wsX7_isZone := goodIn_r _ [17, 18, 12, 13, 9, 14] (by decide +kernel) (by decide +kernel)
set_option maxRecDepth 20000 in
theorem gX7_take_X7_isZone : GoodIn wsX7_take (va_wsS RX7 128 yX7_isZone wsX7_isZone) := goodIn_app (goodIn_of _ (by decide +kernel)) ggX7_take_X7_isZone
set_option maxRecDepth 20000 in
theorem ggX7_take_X7_isSteady : GoodIn wsX7_take wsX7_isSteady := goodIn_r _ [22, 2, 18, 137, 138, 139, 140, 141, 142, 143, 144, 145, 146, 147, 148, 149, 150, 151, 152, 153, 154, 155] (by decide +kernel) (by decide +kernel)
set_option maxRecDepth 20000 in
theorem gX7_take_X7_isSteady : GoodIn wsX7_take (wsV RX7 114 RX7 yX7_isSteady wsX7_isSteady) := goodIn_app (goodIn_of _ (by decide +kernel)) ggX7_take_X7_isSteady
set_option maxRecDepth 20000 in
theorem ggX7_take_X7_isOver : GoodIn wsX7_take wsX7_isOver := goodIn_r _ [26, 2, 27, 28, 29, 9, 30, 31, 32, 33, 34, 137, 138, 139, 140, 141, 142, 143, 144, 145, 146, 147, 148, 149, 150, 151, 152, 153, 154, 155] (by decide +kernel) (by decide +kernel)
set_option maxRecDepth 20000 in
theorem gX7_take_X7_isOver : GoodIn wsX7_take (wsV RX7 118 RX7 yX7_isOver wsX7_isOver) := goodIn_app (goodIn_of _ (by decide +kernel)) ggX7_take_X7_isOver
set_option maxRecDepth 20000 in
theorem ggX7_take_X7_gross : GoodIn wsX7_take wsX7_gross := goodIn_r _ [38, 2, 39, 27, 28, 29, 9, 30, 31, 32, 33, 34, 137, 138, 139, 140, 141, 142, 143, 144, 145, 146, 147, 148, 149, 150, 151, 152, 153, 154, 155] (by decide +kernel) (by decide +kernel)
set_option maxRecDepth 20000 in
theorem gX7_take_X7_gross : GoodIn wsX7_take (wsV RX7 121 RX7 yX7_gross wsX7_gross) := goodIn_app (goodIn_of _ (by decide +kernel)) ggX7_take_X7_gross
set_option maxRecDepth 20000 in
theorem ggX7_take_X7_bands : GoodIn wsX7_take wsX7_bands := goodIn_r _ [43, 2, 137, 138, 139, 140, 141, 142, 143, 144, 145, 146, 147, 148, 149, 150, 151, 152, 153, 154, 155] (by decide +kernel) (by decide +kernel)
set_option maxRecDepth 20000 in
theorem gX7_take_X7_bands : GoodIn wsX7_take (wsV RX7 132 RX7 yX7_bands wsX7_bands) := goodIn_app (goodIn_of _ (by decide +kernel)) ggX7_take_X7_bands
set_option maxRecDepth 20000 in
theorem ggX7_take_X7_act : GoodIn wsX7_take wsX7_act := goodIn_r _ [47, 48, 49, 2, 137, 138, 139, 140, 141, 142, 143, 144, 145, 146, 147, 148, 149, 150, 151, 152, 153, 154, 155] (by decide +kernel) (by decide +kernel)
set_option maxRecDepth 20000 in
theorem gX7_take_X7_act : GoodIn wsX7_take (wsV RX7 62 RX7 yX7_act wsX7_act) := goodIn_app (goodIn_of _ (by decide +kernel)) ggX7_take_X7_act
set_option maxRecDepth 20000 in
theorem ggX7_take_X7_readsRules : GoodIn wsX7_take wsX7_readsRules := goodIn_r _ [53, 2, 54, 55, 56, 57, 58, 59, 9, 60, 61, 62, 63, 64, 65, 66, 67, 68, 69, 70, 71, 72, 73, 74, 75, 76, 77, 78, 79, 80, 81, 82, 83, 84, 12, 13, 14, 85, 86, 87, 88, 89, 90, 91, 92, 93, 94, 95, 96, 97, 98, 99, 100, 101, 137, 138, 139, 140, 141, 142, 143, 144, 145, 146, 147, 148, 149, 150, 151, 152, 153, 154, 155] (by decide +kernel) (by decide +kernel)
set_option maxRecDepth 20000 in
theorem gX7_take_X7_readsRules : GoodIn wsX7_take (wsV RX7 229 RX7 yX7_readsRules wsX7_readsRules) := goodIn_app (goodIn_of _ (by decide +kernel)) ggX7_take_X7_readsRules
set_option maxRecDepth 20000 in
theorem ggX7_take_X7_works : GoodIn wsX7_take wsX7_works := goodIn_r _ [105, 6, 31, 2, 39, 18, 106, 66, 67, 107, 108, 109, 9, 110, 111, 112, 113, 114, 115, 116, 117, 118, 119, 40, 41, 42, 43, 120, 121, 122, 123, 124, 125, 126, 127, 128, 129, 130, 131, 132, 62, 89, 133, 32, 33, 34, 137, 138, 139, 140, 141, 142, 143, 144, 145, 146, 147, 148, 149, 150, 151, 152, 153, 154, 155] (by decide +kernel) (by decide +kernel)
set_option maxRecDepth 20000 in
theorem gX7_take_X7_works : GoodIn wsX7_take (wsV RX7 232 RX7 yX7_works wsX7_works) := goodIn_app (goodIn_of _ (by decide +kernel)) ggX7_take_X7_works
set_option maxRecDepth 20000 in
theorem ggX7_take_X7_parcelAt : GoodIn wsX7_take wsX7_parcelAt := goodIn_r _ [136] (by decide +kernel) (by decide +kernel)
set_option maxRecDepth 20000 in
theorem gX7_take_X7_parcelAt : GoodIn wsX7_take (va_wsS RX7 236 yX7_parcelAt wsX7_parcelAt) := goodIn_app (goodIn_of _ (by decide +kernel)) ggX7_take_X7_parcelAt
theorem dX7_take_0 : decode cX7_take 0 = .ok (.iload_n 1, 1) := by decide +kernel
theorem dX7_take_1 : decode cX7_take 1 = .ok (.invokestatic 224, 3) := by decide +kernel
theorem dX7_take_4 : decode cX7_take 4 = .ok (.ifCond .eq 25, 3) := by decide +kernel
theorem dX7_take_7 : decode cX7_take 7 = .ok (.iload_n 2, 1) := by decide +kernel
theorem dX7_take_8 : decode cX7_take 8 = .ok (.invokestatic 224, 3) := by decide +kernel
theorem dX7_take_11 : decode cX7_take 11 = .ok (.ifCond .eq 18, 3) := by decide +kernel
theorem dX7_take_14 : decode cX7_take 14 = .ok (.iload_n 3, 1) := by decide +kernel
theorem dX7_take_15 : decode cX7_take 15 = .ok (.invokestatic 224, 3) := by decide +kernel
theorem dX7_take_18 : decode cX7_take 18 = .ok (.ifCond .eq 11, 3) := by decide +kernel
theorem dX7_take_21 : decode cX7_take 21 = .ok (.iload 4, 2) := by decide +kernel
theorem dX7_take_23 : decode cX7_take 23 = .ok (.invokestatic 128, 3) := by decide +kernel
theorem dX7_take_26 : decode cX7_take 26 = .ok (.ifCond .ne 6, 3) := by decide +kernel
theorem dX7_take_29 : decode cX7_take 29 = .ok (.ldc 89, 2) := by decide +kernel
theorem dX7_take_31 : decode cX7_take 31 = .ok (.ireturn, 1) := by decide +kernel
theorem dX7_take_32 : decode cX7_take 32 = .ok (.aload_n 0, 1) := by decide +kernel
theorem dX7_take_33 : decode cX7_take 33 = .ok (.invokevirtual 114, 3) := by decide +kernel
theorem dX7_take_36 : decode cX7_take 36 = .ok (.ifCond .eq 36, 3) := by decide +kernel
theorem dX7_take_39 : decode cX7_take 39 = .ok (.aload_n 0, 1) := by decide +kernel
theorem dX7_take_40 : decode cX7_take 40 = .ok (.invokevirtual 118, 3) := by decide +kernel
theorem dX7_take_43 : decode cX7_take 43 = .ok (.ifCond .ne 29, 3) := by decide +kernel
theorem dX7_take_46 : decode cX7_take 46 = .ok (.aload_n 0, 1) := by decide +kernel
theorem dX7_take_47 : decode cX7_take 47 = .ok (.invokevirtual 121, 3) := by decide +kernel
theorem dX7_take_50 : decode cX7_take 50 = .ok (.aload_n 0, 1) := by decide +kernel
theorem dX7_take_51 : decode cX7_take 51 = .ok (.getfield 7, 3) := by decide +kernel
theorem dX7_take_54 : decode cX7_take 54 = .ok (.bipush 11, 2) := by decide +kernel
theorem dX7_take_56 : decode cX7_take 56 = .ok (.laload, 1) := by decide +kernel
theorem dX7_take_57 : decode cX7_take 57 = .ok (.lsub, 1) := by decide +kernel
theorem dX7_take_58 : decode cX7_take 58 = .ok (.lconst 1, 1) := by decide +kernel
theorem dX7_take_59 : decode cX7_take 59 = .ok (.lcmp, 1) := by decide +kernel
theorem dX7_take_60 : decode cX7_take 60 = .ok (.ifCond .lt 12, 3) := by decide +kernel
theorem dX7_take_63 : decode cX7_take 63 = .ok (.aload_n 0, 1) := by decide +kernel
theorem dX7_take_64 : decode cX7_take 64 = .ok (.iload 4, 2) := by decide +kernel
theorem dX7_take_66 : decode cX7_take 66 = .ok (.invokevirtual 132, 3) := by decide +kernel
theorem dX7_take_69 : decode cX7_take 69 = .ok (.ifCond .ne 6, 3) := by decide +kernel
theorem dX7_take_72 : decode cX7_take 72 = .ok (.ldc 108, 2) := by decide +kernel
theorem dX7_take_74 : decode cX7_take 74 = .ok (.ireturn, 1) := by decide +kernel
theorem dX7_take_75 : decode cX7_take 75 = .ok (.aload_n 0, 1) := by decide +kernel
theorem dX7_take_76 : decode cX7_take 76 = .ok (.getfield 7, 3) := by decide +kernel
theorem dX7_take_79 : decode cX7_take 79 = .ok (.bipush 19, 2) := by decide +kernel
theorem dX7_take_81 : decode cX7_take 81 = .ok (.laload, 1) := by decide +kernel
theorem dX7_take_82 : decode cX7_take 82 = .ok (.ldc2_w 227, 3) := by decide +kernel
theorem dX7_take_85 : decode cX7_take 85 = .ok (.lcmp, 1) := by decide +kernel
theorem dX7_take_86 : decode cX7_take 86 = .ok (.ifCond .ne 6, 3) := by decide +kernel
theorem dX7_take_89 : decode cX7_take 89 = .ok (.ldc 139, 2) := by decide +kernel
theorem dX7_take_91 : decode cX7_take 91 = .ok (.ireturn, 1) := by decide +kernel
theorem dX7_take_92 : decode cX7_take 92 = .ok (.aload_n 0, 1) := by decide +kernel
theorem dX7_take_93 : decode cX7_take 93 = .ok (.invokevirtual 62, 3) := by decide +kernel
theorem dX7_take_96 : decode cX7_take 96 = .ok (.aload_n 0, 1) := by decide +kernel
theorem dX7_take_97 : decode cX7_take 97 = .ok (.invokevirtual 229, 3) := by decide +kernel
theorem dX7_take_100 : decode cX7_take 100 = .ok (.aload_n 0, 1) := by decide +kernel
theorem dX7_take_101 : decode cX7_take 101 = .ok (.aload_n 0, 1) := by decide +kernel
theorem dX7_take_102 : decode cX7_take 102 = .ok (.invokevirtual 121, 3) := by decide +kernel
theorem dX7_take_105 : decode cX7_take 105 = .ok (.aload_n 0, 1) := by decide +kernel
theorem dX7_take_106 : decode cX7_take 106 = .ok (.getfield 7, 3) := by decide +kernel
theorem dX7_take_109 : decode cX7_take 109 = .ok (.bipush 11, 2) := by decide +kernel
theorem dX7_take_111 : decode cX7_take 111 = .ok (.laload, 1) := by decide +kernel
theorem dX7_take_112 : decode cX7_take 112 = .ok (.lsub, 1) := by decide +kernel
theorem dX7_take_113 : decode cX7_take 113 = .ok (.iload_n 1, 1) := by decide +kernel
theorem dX7_take_114 : decode cX7_take 114 = .ok (.i2l, 1) := by decide +kernel
theorem dX7_take_115 : decode cX7_take 115 = .ok (.iload_n 2, 1) := by decide +kernel
theorem dX7_take_116 : decode cX7_take 116 = .ok (.i2l, 1) := by decide +kernel
theorem dX7_take_117 : decode cX7_take 117 = .ok (.iload_n 3, 1) := by decide +kernel
theorem dX7_take_118 : decode cX7_take 118 = .ok (.i2l, 1) := by decide +kernel
theorem dX7_take_119 : decode cX7_take 119 = .ok (.iload 4, 2) := by decide +kernel
theorem dX7_take_121 : decode cX7_take 121 = .ok (.invokevirtual 232, 3) := by decide +kernel
theorem dX7_take_124 : decode cX7_take 124 = .ok (.lstore 5, 2) := by decide +kernel
theorem dX7_take_126 : decode cX7_take 126 = .ok (.aload_n 0, 1) := by decide +kernel
theorem dX7_take_127 : decode cX7_take 127 = .ok (.getfield 7, 3) := by decide +kernel
theorem dX7_take_130 : decode cX7_take 130 = .ok (.bipush 19, 2) := by decide +kernel
theorem dX7_take_132 : decode cX7_take 132 = .ok (.laload, 1) := by decide +kernel
theorem dX7_take_133 : decode cX7_take 133 = .ok (.l2i, 1) := by decide +kernel
theorem dX7_take_134 : decode cX7_take 134 = .ok (.iconst 0, 1) := by decide +kernel
theorem dX7_take_135 : decode cX7_take 135 = .ok (.invokestatic 236, 3) := by decide +kernel
theorem dX7_take_138 : decode cX7_take 138 = .ok (.istore 7, 2) := by decide +kernel
theorem dX7_take_140 : decode cX7_take 140 = .ok (.iconst 0, 1) := by decide +kernel
theorem dX7_take_141 : decode cX7_take 141 = .ok (.istore 8, 2) := by decide +kernel
theorem dX7_take_143 : decode cX7_take 143 = .ok (.iload 8, 2) := by decide +kernel
theorem dX7_take_145 : decode cX7_take 145 = .ok (.bipush 12, 2) := by decide +kernel
theorem dX7_take_147 : decode cX7_take 147 = .ok (.if_icmp .ge 26, 3) := by decide +kernel
theorem dX7_take_150 : decode cX7_take 150 = .ok (.aload_n 0, 1) := by decide +kernel
theorem dX7_take_151 : decode cX7_take 151 = .ok (.getfield 7, 3) := by decide +kernel
theorem dX7_take_154 : decode cX7_take 154 = .ok (.iload 7, 2) := by decide +kernel
theorem dX7_take_156 : decode cX7_take 156 = .ok (.iload 8, 2) := by decide +kernel
theorem dX7_take_158 : decode cX7_take 158 = .ok (.iadd, 1) := by decide +kernel
theorem dX7_take_159 : decode cX7_take 159 = .ok (.aload_n 0, 1) := by decide +kernel
theorem dX7_take_160 : decode cX7_take 160 = .ok (.getfield 38, 3) := by decide +kernel
theorem dX7_take_163 : decode cX7_take 163 = .ok (.iload 8, 2) := by decide +kernel
theorem dX7_take_165 : decode cX7_take 165 = .ok (.laload, 1) := by decide +kernel
theorem dX7_take_166 : decode cX7_take 166 = .ok (.lastore, 1) := by decide +kernel
theorem dX7_take_167 : decode cX7_take 167 = .ok (.iinc 8 1, 3) := by decide +kernel
theorem dX7_take_170 : decode cX7_take 170 = .ok (.goto (-27), 3) := by decide +kernel
theorem dX7_take_173 : decode cX7_take 173 = .ok (.aload_n 0, 1) := by decide +kernel
theorem dX7_take_174 : decode cX7_take 174 = .ok (.getfield 7, 3) := by decide +kernel
theorem dX7_take_177 : decode cX7_take 177 = .ok (.bipush 19, 2) := by decide +kernel
theorem dX7_take_179 : decode cX7_take 179 = .ok (.dup2, 1) := by decide +kernel
theorem dX7_take_180 : decode cX7_take 180 = .ok (.laload, 1) := by decide +kernel
theorem dX7_take_181 : decode cX7_take 181 = .ok (.lconst 1, 1) := by decide +kernel
theorem dX7_take_182 : decode cX7_take 182 = .ok (.ladd, 1) := by decide +kernel
theorem dX7_take_183 : decode cX7_take 183 = .ok (.lastore, 1) := by decide +kernel
theorem dX7_take_184 : decode cX7_take 184 = .ok (.aload_n 0, 1) := by decide +kernel
theorem dX7_take_185 : decode cX7_take 185 = .ok (.getfield 7, 3) := by decide +kernel
theorem dX7_take_188 : decode cX7_take 188 = .ok (.bipush 19, 2) := by decide +kernel
theorem dX7_take_190 : decode cX7_take 190 = .ok (.laload, 1) := by decide +kernel
theorem dX7_take_191 : decode cX7_take 191 = .ok (.l2i, 1) := by decide +kernel
theorem dX7_take_192 : decode cX7_take 192 = .ok (.iconst 1, 1) := by decide +kernel
theorem dX7_take_193 : decode cX7_take 193 = .ok (.isub, 1) := by decide +kernel
theorem dX7_take_194 : decode cX7_take 194 = .ok (.ireturn, 1) := by decide +kernel
set_option maxRecDepth 20000 in
theorem ggX7_quote_X7_in : GoodIn wsX7_quote wsX7_in := goodIn_r _ [7] (by decide +kernel) (by decide +kernel)
set_option maxRecDepth 20000 in
theorem gX7_quote_X7_in : GoodIn wsX7_quote (va_wsS RX7 69 yX7_in wsX7_in) := goodIn_app (goodIn_of _ (by decide +kernel)) ggX7_quote_X7_in
set_option maxRecDepth 20000 in
theorem ggX7_quote_X7_isSide : GoodIn wsX7_quote wsX7_isSide := goodIn_r _ [10, 11, 4, 5, 6, 7] (by decide +kernel) (by decide +kernel)
set_option maxRecDepth 20000 in
theorem gX7_quote_X7_isSide : GoodIn wsX7_quote (va_wsS RX7 224 yX7_isSide wsX7_isSide) := goodIn_app (goodIn_of _ (by decide +kernel)) ggX7_quote_X7_isSide
set_option maxRecDepth 20000 in
theorem ggX7_quote_X7_isZone : GoodIn wsX7_quote wsX7_isZone := goodIn_r _ [14, 15, 4, 5, 6, 7] (by decide +kernel) (by decide +kernel)
set_option maxRecDepth 20000 in
theorem gX7_quote_X7_isZone : GoodIn wsX7_quote (va_wsS RX7 128 yX7_isZone wsX7_isZone) := goodIn_app (goodIn_of _ (by decide +kernel)) ggX7_quote_X7_isZone
set_option maxRecDepth 20000 in
theorem ggX7_quote_X7_bands : GoodIn wsX7_quote wsX7_bands := goodIn_r _ [19, 20, 111, 112, 113, 114, 115, 116, 117, 118, 119, 120, 121, 122, 123, 124, 125, 126, 127, 128, 129] (by decide +kernel) (by decide +kernel)
set_option maxRecDepth 20000 in
theorem gX7_quote_X7_bands : GoodIn wsX7_quote (wsV RX7 132 RX7 yX7_bands wsX7_bands) := goodIn_app (goodIn_of _ (by decide +kernel)) ggX7_quote_X7_bands
set_option maxRecDepth 20000 in
theorem ggX7_quote_X7_readsRules : GoodIn wsX7_quote wsX7_readsRules := goodIn_r _ [24, 20, 25, 26, 27, 28, 29, 30, 6, 31, 32, 33, 34, 35, 36, 37, 38, 39, 40, 41, 42, 43, 44, 45, 46, 47, 48, 49, 50, 51, 52, 53, 54, 55, 4, 5, 7, 56, 57, 58, 59, 60, 61, 62, 63, 64, 65, 66, 67, 68, 69, 70, 71, 72, 111, 112, 113, 114, 115, 116, 117, 118, 119, 120, 121, 122, 123, 124, 125, 126, 127, 128, 129] (by decide +kernel) (by decide +kernel)
set_option maxRecDepth 20000 in
theorem gX7_quote_X7_readsRules : GoodIn wsX7_quote (wsV RX7 229 RX7 yX7_readsRules wsX7_readsRules) := goodIn_app (goodIn_of _ (by decide +kernel)) ggX7_quote_X7_readsRules
set_option maxRecDepth 20000 in
theorem ggX7_quote_X7_works : GoodIn wsX7_quote wsX7_works := goodIn_r _ [76, 77, 78, 20, 79, 15, 80, 37, 38, 81, 82, 83, 6, 84, 85, 86, 87, 88, 89, 90, 91, 92, 93, 16, 17, 18, 19, 94, 95, 96, 97, 98, 99, 100, 101, 102, 103, 104, 105, 106, 33, 60, 107, 108, 109, 110, 111, 112, 113, 114, 115, 116, 117, 118, 119, 120, 121, 122, 123, 124, 125, 126, 127, 128, 129] (by decide +kernel) (by decide +kernel)
set_option maxRecDepth 20000 in
theorem gX7_quote_X7_works : GoodIn wsX7_quote (wsV RX7 232 RX7 yX7_works wsX7_works) := goodIn_app (goodIn_of _ (by decide +kernel)) ggX7_quote_X7_works
theorem dX7_quote_0 : decode cX7_quote 0 = .ok (.iload_n 1, 1) := by decide +kernel
theorem dX7_quote_1 : decode cX7_quote 1 = .ok (.i2l, 1) := by decide +kernel
theorem dX7_quote_2 : decode cX7_quote 2 = .ok (.lconst 1, 1) := by decide +kernel
theorem dX7_quote_3 : decode cX7_quote 3 = .ok (.ldc2_w 92, 3) := by decide +kernel
theorem dX7_quote_6 : decode cX7_quote 6 = .ok (.invokestatic 69, 3) := by decide +kernel
theorem dX7_quote_9 : decode cX7_quote 9 = .ok (.ifCond .eq 33, 3) := by decide +kernel
theorem dX7_quote_12 : decode cX7_quote 12 = .ok (.iload_n 2, 1) := by decide +kernel
