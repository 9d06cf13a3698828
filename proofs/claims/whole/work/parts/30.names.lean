theorem dX7_init_0 : decode cX7_init 0 = .ok (.aload_n 0, 1) := by decide +kernel
theorem dX7_init_1 : decode cX7_init 1 = .ok (.invokespecial 1, 3) := by decide +kernel
theorem dX7_init_4 : decode cX7_init 4 = .ok (.aload_n 0, 1) := by decide +kernel
theorem dX7_init_5 : decode cX7_init 5 = .ok (.sipush 1200, 3) := by decide +kernel
theorem dX7_init_8 : decode cX7_init 8 = .ok (.newarray .long, 2) := by decide +kernel
theorem dX7_init_10 : decode cX7_init 10 = .ok (.putfield 7, 3) := by decide +kernel
theorem dX7_init_13 : decode cX7_init 13 = .ok (.aload_n 0, 1) := by decide +kernel
theorem dX7_init_14 : decode cX7_init 14 = .ok (.sipush 4800, 3) := by decide +kernel
theorem dX7_init_17 : decode cX7_init 17 = .ok (.newarray .long, 2) := by decide +kernel
theorem dX7_init_19 : decode cX7_init 19 = .ok (.putfield 13, 3) := by decide +kernel
theorem dX7_init_22 : decode cX7_init 22 = .ok (.aload_n 0, 1) := by decide +kernel
theorem dX7_init_23 : decode cX7_init 23 = .ok (.bipush 60, 2) := by decide +kernel
theorem dX7_init_25 : decode cX7_init 25 = .ok (.newarray .int, 2) := by decide +kernel
theorem dX7_init_27 : decode cX7_init 27 = .ok (.putfield 16, 3) := by decide +kernel
theorem dX7_init_30 : decode cX7_init 30 = .ok (.aload_n 0, 1) := by decide +kernel
theorem dX7_init_31 : decode cX7_init 31 = .ok (.bipush 60, 2) := by decide +kernel
theorem dX7_init_33 : decode cX7_init 33 = .ok (.newarray .int, 2) := by decide +kernel
theorem dX7_init_35 : decode cX7_init 35 = .ok (.putfield 20, 3) := by decide +kernel
theorem dX7_init_38 : decode cX7_init 38 = .ok (.aload_n 0, 1) := by decide +kernel
theorem dX7_init_39 : decode cX7_init 39 = .ok (.sipush 1600, 3) := by decide +kernel
theorem dX7_init_42 : decode cX7_init 42 = .ok (.newarray .int, 2) := by decide +kernel
theorem dX7_init_44 : decode cX7_init 44 = .ok (.putfield 23, 3) := by decide +kernel
theorem dX7_init_47 : decode cX7_init 47 = .ok (.aload_n 0, 1) := by decide +kernel
theorem dX7_init_48 : decode cX7_init 48 = .ok (.bipush 8, 2) := by decide +kernel
theorem dX7_init_50 : decode cX7_init 50 = .ok (.newarray .int, 2) := by decide +kernel
theorem dX7_init_52 : decode cX7_init 52 = .ok (.putfield 26, 3) := by decide +kernel
theorem dX7_init_55 : decode cX7_init 55 = .ok (.aload_n 0, 1) := by decide +kernel
theorem dX7_init_56 : decode cX7_init 56 = .ok (.bipush 8, 2) := by decide +kernel
theorem dX7_init_58 : decode cX7_init 58 = .ok (.newarray .int, 2) := by decide +kernel
theorem dX7_init_60 : decode cX7_init 60 = .ok (.putfield 29, 3) := by decide +kernel
theorem dX7_init_63 : decode cX7_init 63 = .ok (.aload_n 0, 1) := by decide +kernel
theorem dX7_init_64 : decode cX7_init 64 = .ok (.bipush 8, 2) := by decide +kernel
theorem dX7_init_66 : decode cX7_init 66 = .ok (.newarray .int, 2) := by decide +kernel
theorem dX7_init_68 : decode cX7_init 68 = .ok (.putfield 32, 3) := by decide +kernel
theorem dX7_init_71 : decode cX7_init 71 = .ok (.aload_n 0, 1) := by decide +kernel
theorem dX7_init_72 : decode cX7_init 72 = .ok (.bipush 64, 2) := by decide +kernel
theorem dX7_init_74 : decode cX7_init 74 = .ok (.newarray .int, 2) := by decide +kernel
theorem dX7_init_76 : decode cX7_init 76 = .ok (.putfield 35, 3) := by decide +kernel
theorem dX7_init_79 : decode cX7_init 79 = .ok (.aload_n 0, 1) := by decide +kernel
theorem dX7_init_80 : decode cX7_init 80 = .ok (.bipush 12, 2) := by decide +kernel
theorem dX7_init_82 : decode cX7_init 82 = .ok (.newarray .long, 2) := by decide +kernel
theorem dX7_init_84 : decode cX7_init 84 = .ok (.putfield 38, 3) := by decide +kernel
theorem dX7_init_87 : decode cX7_init 87 = .ok (.aload_n 0, 1) := by decide +kernel
theorem dX7_init_88 : decode cX7_init 88 = .ok (.bipush 6, 2) := by decide +kernel
theorem dX7_init_90 : decode cX7_init 90 = .ok (.newarray .long, 2) := by decide +kernel
theorem dX7_init_92 : decode cX7_init 92 = .ok (.putfield 41, 3) := by decide +kernel
theorem dX7_init_95 : decode cX7_init 95 = .ok (.aload_n 0, 1) := by decide +kernel
theorem dX7_init_96 : decode cX7_init 96 = .ok (.bipush 64, 2) := by decide +kernel
theorem dX7_init_98 : decode cX7_init 98 = .ok (.newarray .boolean, 2) := by decide +kernel
theorem dX7_init_100 : decode cX7_init 100 = .ok (.putfield 44, 3) := by decide +kernel
theorem dX7_init_103 : decode cX7_init 103 = .ok (.aload_n 0, 1) := by decide +kernel
theorem dX7_init_104 : decode cX7_init 104 = .ok (.getfield 7, 3) := by decide +kernel
theorem dX7_init_107 : decode cX7_init 107 = .ok (.iconst 2, 1) := by decide +kernel
theorem dX7_init_108 : decode cX7_init 108 = .ok (.ldc2_w 48, 3) := by decide +kernel
theorem dX7_init_111 : decode cX7_init 111 = .ok (.lastore, 1) := by decide +kernel
theorem dX7_init_112 : decode cX7_init 112 = .ok (.aload_n 0, 1) := by decide +kernel
theorem dX7_init_113 : decode cX7_init 113 = .ok (.getfield 7, 3) := by decide +kernel
theorem dX7_init_116 : decode cX7_init 116 = .ok (.iconst 3, 1) := by decide +kernel
theorem dX7_init_117 : decode cX7_init 117 = .ok (.ldc2_w 50, 3) := by decide +kernel
theorem dX7_init_120 : decode cX7_init 120 = .ok (.lastore, 1) := by decide +kernel
theorem dX7_init_121 : decode cX7_init 121 = .ok (.aload_n 0, 1) := by decide +kernel
theorem dX7_init_122 : decode cX7_init 122 = .ok (.getfield 7, 3) := by decide +kernel
theorem dX7_init_125 : decode cX7_init 125 = .ok (.iconst 4, 1) := by decide +kernel
theorem dX7_init_126 : decode cX7_init 126 = .ok (.ldc2_w 48, 3) := by decide +kernel
theorem dX7_init_129 : decode cX7_init 129 = .ok (.lastore, 1) := by decide +kernel
theorem dX7_init_130 : decode cX7_init 130 = .ok (.aload_n 0, 1) := by decide +kernel
theorem dX7_init_131 : decode cX7_init 131 = .ok (.getfield 7, 3) := by decide +kernel
theorem dX7_init_134 : decode cX7_init 134 = .ok (.iconst 5, 1) := by decide +kernel
theorem dX7_init_135 : decode cX7_init 135 = .ok (.ldc2_w 52, 3) := by decide +kernel
theorem dX7_init_138 : decode cX7_init 138 = .ok (.lastore, 1) := by decide +kernel
theorem dX7_init_139 : decode cX7_init 139 = .ok (.aload_n 0, 1) := by decide +kernel
theorem dX7_init_140 : decode cX7_init 140 = .ok (.getfield 7, 3) := by decide +kernel
theorem dX7_init_143 : decode cX7_init 143 = .ok (.bipush 6, 2) := by decide +kernel
theorem dX7_init_145 : decode cX7_init 145 = .ok (.ldc2_w 54, 3) := by decide +kernel
theorem dX7_init_148 : decode cX7_init 148 = .ok (.lastore, 1) := by decide +kernel
theorem dX7_init_149 : decode cX7_init 149 = .ok (.aload_n 0, 1) := by decide +kernel
theorem dX7_init_150 : decode cX7_init 150 = .ok (.getfield 7, 3) := by decide +kernel
theorem dX7_init_153 : decode cX7_init 153 = .ok (.bipush 7, 2) := by decide +kernel
theorem dX7_init_155 : decode cX7_init 155 = .ok (.ldc2_w 56, 3) := by decide +kernel
theorem dX7_init_158 : decode cX7_init 158 = .ok (.lastore, 1) := by decide +kernel
theorem dX7_init_159 : decode cX7_init 159 = .ok (.iconst 0, 1) := by decide +kernel
theorem dX7_init_160 : decode cX7_init 160 = .ok (.istore_n 1, 1) := by decide +kernel
theorem dX7_init_161 : decode cX7_init 161 = .ok (.iload_n 1, 1) := by decide +kernel
theorem dX7_init_162 : decode cX7_init 162 = .ok (.iconst 4, 1) := by decide +kernel
theorem dX7_init_163 : decode cX7_init 163 = .ok (.if_icmp .ge 26, 3) := by decide +kernel
theorem dX7_init_166 : decode cX7_init 166 = .ok (.aload_n 0, 1) := by decide +kernel
theorem dX7_init_167 : decode cX7_init 167 = .ok (.getfield 7, 3) := by decide +kernel
theorem dX7_init_170 : decode cX7_init 170 = .ok (.bipush 24, 2) := by decide +kernel
theorem dX7_init_172 : decode cX7_init 172 = .ok (.bipush 14, 2) := by decide +kernel
theorem dX7_init_174 : decode cX7_init 174 = .ok (.iload_n 1, 1) := by decide +kernel
theorem dX7_init_175 : decode cX7_init 175 = .ok (.imul, 1) := by decide +kernel
theorem dX7_init_176 : decode cX7_init 176 = .ok (.iadd, 1) := by decide +kernel
theorem dX7_init_177 : decode cX7_init 177 = .ok (.iconst 1, 1) := by decide +kernel
theorem dX7_init_178 : decode cX7_init 178 = .ok (.iadd, 1) := by decide +kernel
theorem dX7_init_179 : decode cX7_init 179 = .ok (.ldc2_w 56, 3) := by decide +kernel
theorem dX7_init_182 : decode cX7_init 182 = .ok (.lastore, 1) := by decide +kernel
theorem dX7_init_183 : decode cX7_init 183 = .ok (.iinc 1 1, 3) := by decide +kernel
theorem dX7_init_186 : decode cX7_init 186 = .ok (.goto (-25), 3) := by decide +kernel
theorem dX7_init_189 : decode cX7_init 189 = .ok (.return_, 1) := by decide +kernel
theorem dX7_in_0 : decode cX7_in 0 = .ok (.lload_n 0, 1) := by decide +kernel
theorem dX7_in_1 : decode cX7_in 1 = .ok (.lload_n 2, 1) := by decide +kernel
theorem dX7_in_2 : decode cX7_in 2 = .ok (.lcmp, 1) := by decide +kernel
theorem dX7_in_3 : decode cX7_in 3 = .ok (.ifCond .lt 14, 3) := by decide +kernel
theorem dX7_in_6 : decode cX7_in 6 = .ok (.lload_n 0, 1) := by decide +kernel
theorem dX7_in_7 : decode cX7_in 7 = .ok (.lload 4, 2) := by decide +kernel
theorem dX7_in_9 : decode cX7_in 9 = .ok (.lcmp, 1) := by decide +kernel
theorem dX7_in_10 : decode cX7_in 10 = .ok (.ifCond .gt 7, 3) := by decide +kernel
theorem dX7_in_13 : decode cX7_in 13 = .ok (.iconst 1, 1) := by decide +kernel
theorem dX7_in_14 : decode cX7_in 14 = .ok (.goto 4, 3) := by decide +kernel
theorem dX7_in_17 : decode cX7_in 17 = .ok (.iconst 0, 1) := by decide +kernel
theorem dX7_in_18 : decode cX7_in 18 = .ok (.ireturn, 1) := by decide +kernel
theorem dX7_act_0 : decode cX7_act 0 = .ok (.aload_n 0, 1) := by decide +kernel
theorem dX7_act_1 : decode cX7_act 1 = .ok (.getfield 58, 3) := by decide +kernel
theorem dX7_act_4 : decode cX7_act 4 = .ok (.iconst 4, 1) := by decide +kernel
theorem dX7_act_5 : decode cX7_act 5 = .ok (.if_icmp .ne 44, 3) := by decide +kernel
theorem dX7_act_8 : decode cX7_act 8 = .ok (.iconst 0, 1) := by decide +kernel
theorem dX7_act_9 : decode cX7_act 9 = .ok (.istore_n 1, 1) := by decide +kernel
theorem dX7_act_10 : decode cX7_act 10 = .ok (.iload_n 1, 1) := by decide +kernel
theorem dX7_act_11 : decode cX7_act 11 = .ok (.sipush 3600, 3) := by decide +kernel
theorem dX7_act_14 : decode cX7_act 14 = .ok (.if_icmp .ge 25, 3) := by decide +kernel
theorem dX7_act_17 : decode cX7_act 17 = .ok (.aload_n 0, 1) := by decide +kernel
theorem dX7_act_18 : decode cX7_act 18 = .ok (.getfield 13, 3) := by decide +kernel
theorem dX7_act_21 : decode cX7_act 21 = .ok (.iload_n 1, 1) := by decide +kernel
theorem dX7_act_22 : decode cX7_act 22 = .ok (.aload_n 0, 1) := by decide +kernel
theorem dX7_act_23 : decode cX7_act 23 = .ok (.getfield 13, 3) := by decide +kernel
theorem dX7_act_26 : decode cX7_act 26 = .ok (.iload_n 1, 1) := by decide +kernel
theorem dX7_act_27 : decode cX7_act 27 = .ok (.sipush 1200, 3) := by decide +kernel
theorem dX7_act_30 : decode cX7_act 30 = .ok (.iadd, 1) := by decide +kernel
theorem dX7_act_31 : decode cX7_act 31 = .ok (.laload, 1) := by decide +kernel
theorem dX7_act_32 : decode cX7_act 32 = .ok (.lastore, 1) := by decide +kernel
theorem dX7_act_33 : decode cX7_act 33 = .ok (.iinc 1 1, 3) := by decide +kernel
theorem dX7_act_36 : decode cX7_act 36 = .ok (.goto (-26), 3) := by decide +kernel
theorem dX7_act_39 : decode cX7_act 39 = .ok (.aload_n 0, 1) := by decide +kernel
theorem dX7_act_40 : decode cX7_act 40 = .ok (.dup, 1) := by decide +kernel
theorem dX7_act_41 : decode cX7_act 41 = .ok (.getfield 58, 3) := by decide +kernel
theorem dX7_act_44 : decode cX7_act 44 = .ok (.iconst 1, 1) := by decide +kernel
theorem dX7_act_45 : decode cX7_act 45 = .ok (.isub, 1) := by decide +kernel
theorem dX7_act_46 : decode cX7_act 46 = .ok (.putfield 58, 3) := by decide +kernel
theorem dX7_act_49 : decode cX7_act 49 = .ok (.iconst 0, 1) := by decide +kernel
theorem dX7_act_50 : decode cX7_act 50 = .ok (.istore_n 1, 1) := by decide +kernel
theorem dX7_act_51 : decode cX7_act 51 = .ok (.iload_n 1, 1) := by decide +kernel
theorem dX7_act_52 : decode cX7_act 52 = .ok (.sipush 1200, 3) := by decide +kernel
theorem dX7_act_55 : decode cX7_act 55 = .ok (.if_icmp .ge 30, 3) := by decide +kernel
theorem dX7_act_58 : decode cX7_act 58 = .ok (.aload_n 0, 1) := by decide +kernel
theorem dX7_act_59 : decode cX7_act 59 = .ok (.getfield 13, 3) := by decide +kernel
theorem dX7_act_62 : decode cX7_act 62 = .ok (.sipush 1200, 3) := by decide +kernel
theorem dX7_act_65 : decode cX7_act 65 = .ok (.aload_n 0, 1) := by decide +kernel
theorem dX7_act_66 : decode cX7_act 66 = .ok (.getfield 58, 3) := by decide +kernel
theorem dX7_act_69 : decode cX7_act 69 = .ok (.imul, 1) := by decide +kernel
theorem dX7_act_70 : decode cX7_act 70 = .ok (.iload_n 1, 1) := by decide +kernel
theorem dX7_act_71 : decode cX7_act 71 = .ok (.iadd, 1) := by decide +kernel
theorem dX7_act_72 : decode cX7_act 72 = .ok (.aload_n 0, 1) := by decide +kernel
theorem dX7_act_73 : decode cX7_act 73 = .ok (.getfield 7, 3) := by decide +kernel
theorem dX7_act_76 : decode cX7_act 76 = .ok (.iload_n 1, 1) := by decide +kernel
theorem dX7_act_77 : decode cX7_act 77 = .ok (.laload, 1) := by decide +kernel
theorem dX7_act_78 : decode cX7_act 78 = .ok (.lastore, 1) := by decide +kernel
theorem dX7_act_79 : decode cX7_act 79 = .ok (.iinc 1 1, 3) := by decide +kernel
theorem dX7_act_82 : decode cX7_act 82 = .ok (.goto (-31), 3) := by decide +kernel
theorem dX7_act_85 : decode cX7_act 85 = .ok (.aload_n 0, 1) := by decide +kernel
theorem dX7_act_86 : decode cX7_act 86 = .ok (.dup, 1) := by decide +kernel
theorem dX7_act_87 : decode cX7_act 87 = .ok (.getfield 58, 3) := by decide +kernel
theorem dX7_act_90 : decode cX7_act 90 = .ok (.iconst 1, 1) := by decide +kernel
theorem dX7_act_91 : decode cX7_act 91 = .ok (.iadd, 1) := by decide +kernel
theorem dX7_act_92 : decode cX7_act 92 = .ok (.putfield 58, 3) := by decide +kernel
theorem dX7_act_95 : decode cX7_act 95 = .ok (.return_, 1) := by decide +kernel
theorem dX7_div_0 : decode cX7_div 0 = .ok (.lload_n 0, 1) := by decide +kernel
theorem dX7_div_1 : decode cX7_div 1 = .ok (.lload_n 2, 1) := by decide +kernel
theorem dX7_div_2 : decode cX7_div 2 = .ok (.lrem, 1) := by decide +kernel
theorem dX7_div_3 : decode cX7_div 3 = .ok (.lstore 4, 2) := by decide +kernel
theorem dX7_div_5 : decode cX7_div 5 = .ok (.lload_n 0, 1) := by decide +kernel
theorem dX7_div_6 : decode cX7_div 6 = .ok (.lload 4, 2) := by decide +kernel
theorem dX7_div_8 : decode cX7_div 8 = .ok (.lconst 0, 1) := by decide +kernel
theorem dX7_div_9 : decode cX7_div 9 = .ok (.lcmp, 1) := by decide +kernel
theorem dX7_div_10 : decode cX7_div 10 = .ok (.ifCond .ge 10, 3) := by decide +kernel
theorem dX7_div_13 : decode cX7_div 13 = .ok (.lload 4, 2) := by decide +kernel
theorem dX7_div_15 : decode cX7_div 15 = .ok (.lload_n 2, 1) := by decide +kernel
theorem dX7_div_16 : decode cX7_div 16 = .ok (.ladd, 1) := by decide +kernel
theorem dX7_div_17 : decode cX7_div 17 = .ok (.goto 5, 3) := by decide +kernel
theorem dX7_div_20 : decode cX7_div 20 = .ok (.lload 4, 2) := by decide +kernel
theorem dX7_div_22 : decode cX7_div 22 = .ok (.lsub, 1) := by decide +kernel
theorem dX7_div_23 : decode cX7_div 23 = .ok (.lload_n 2, 1) := by decide +kernel
theorem dX7_div_24 : decode cX7_div 24 = .ok (.ldiv, 1) := by decide +kernel
theorem dX7_div_25 : decode cX7_div 25 = .ok (.lreturn, 1) := by decide +kernel
theorem dX7_up_0 : decode cX7_up 0 = .ok (.lload_n 0, 1) := by decide +kernel
theorem dX7_up_1 : decode cX7_up 1 = .ok (.lload_n 2, 1) := by decide +kernel
theorem dX7_up_2 : decode cX7_up 2 = .ok (.ladd, 1) := by decide +kernel
theorem dX7_up_3 : decode cX7_up 3 = .ok (.lconst 1, 1) := by decide +kernel
theorem dX7_up_4 : decode cX7_up 4 = .ok (.lsub, 1) := by decide +kernel
theorem dX7_up_5 : decode cX7_up 5 = .ok (.lload_n 2, 1) := by decide +kernel
theorem dX7_up_6 : decode cX7_up 6 = .ok (.ldiv, 1) := by decide +kernel
theorem dX7_up_7 : decode cX7_up 7 = .ok (.lreturn, 1) := by decide +kernel
set_option maxRecDepth 20000 in
theorem ggX7_sets_X7_act : GoodIn wsX7_sets wsX7_act := goodIn_r _ [6, 7, 8, 1, 9, 10, 11, 12, 13, 14, 15, 16, 17, 18, 19, 20, 21, 22, 23, 24, 25, 26, 27] (by decide +kernel) (by decide +kernel)
set_option maxRecDepth 20000 in
theorem gX7_sets_X7_act : GoodIn wsX7_sets (wsV RX7 62 RX7 yX7_act wsX7_act) := goodIn_app (goodIn_of _ (by decide +kernel)) ggX7_sets_X7_act
theorem dX7_sets_0 : decode cX7_sets 0 = .ok (.aload_n 0, 1) := by decide +kernel
theorem dX7_sets_1 : decode cX7_sets 1 = .ok (.invokevirtual 62, 3) := by decide +kernel
theorem dX7_sets_4 : decode cX7_sets 4 = .ok (.aload_n 0, 1) := by decide +kernel
theorem dX7_sets_5 : decode cX7_sets 5 = .ok (.getfield 7, 3) := by decide +kernel
theorem dX7_sets_8 : decode cX7_sets 8 = .ok (.iload_n 1, 1) := by decide +kernel
theorem dX7_sets_9 : decode cX7_sets 9 = .ok (.laload, 1) := by decide +kernel
theorem dX7_sets_10 : decode cX7_sets 10 = .ok (.l2i, 1) := by decide +kernel
theorem dX7_sets_11 : decode cX7_sets 11 = .ok (.istore_n 3, 1) := by decide +kernel
theorem dX7_sets_12 : decode cX7_sets 12 = .ok (.aload_n 0, 1) := by decide +kernel
theorem dX7_sets_13 : decode cX7_sets 13 = .ok (.getfield 7, 3) := by decide +kernel
theorem dX7_sets_16 : decode cX7_sets 16 = .ok (.iload_n 1, 1) := by decide +kernel
theorem dX7_sets_17 : decode cX7_sets 17 = .ok (.iload_n 2, 1) := by decide +kernel
theorem dX7_sets_18 : decode cX7_sets 18 = .ok (.i2l, 1) := by decide +kernel
theorem dX7_sets_19 : decode cX7_sets 19 = .ok (.lastore, 1) := by decide +kernel
theorem dX7_sets_20 : decode cX7_sets 20 = .ok (.iload_n 3, 1) := by decide +kernel
theorem dX7_sets_21 : decode cX7_sets 21 = .ok (.ireturn, 1) := by decide +kernel
set_option maxRecDepth 20000 in
theorem ggX7_isIn_X7_in : GoodIn wsX7_isIn wsX7_in := goodIn_r _ [11] (by decide +kernel) (by decide +kernel)
set_option maxRecDepth 20000 in
theorem gX7_isIn_X7_in : GoodIn wsX7_isIn (va_wsS RX7 69 yX7_in wsX7_in) := goodIn_app (goodIn_of _ (by decide +kernel)) ggX7_isIn_X7_in
theorem dX7_isIn_0 : decode cX7_isIn 0 = .ok (.iload_n 0, 1) := by decide +kernel
theorem dX7_isIn_1 : decode cX7_isIn 1 = .ok (.tableswitch 121 0 6 #[43, 55, 67, 77, 89, 99, 109], 43) := by decide +kernel
theorem dX7_isIn_44 : decode cX7_isIn 44 = .ok (.iload_n 1, 1) := by decide +kernel
theorem dX7_isIn_45 : decode cX7_isIn 45 = .ok (.i2l, 1) := by decide +kernel
theorem dX7_isIn_46 : decode cX7_isIn 46 = .ok (.ldc2_w 65, 3) := by decide +kernel
theorem dX7_isIn_49 : decode cX7_isIn 49 = .ok (.ldc2_w 67, 3) := by decide +kernel
theorem dX7_isIn_52 : decode cX7_isIn 52 = .ok (.invokestatic 69, 3) := by decide +kernel
theorem dX7_isIn_55 : decode cX7_isIn 55 = .ok (.ireturn, 1) := by decide +kernel
theorem dX7_isIn_56 : decode cX7_isIn 56 = .ok (.iload_n 1, 1) := by decide +kernel
theorem dX7_isIn_57 : decode cX7_isIn 57 = .ok (.i2l, 1) := by decide +kernel
theorem dX7_isIn_58 : decode cX7_isIn 58 = .ok (.ldc2_w 65, 3) := by decide +kernel
theorem dX7_isIn_61 : decode cX7_isIn 61 = .ok (.ldc2_w 67, 3) := by decide +kernel
theorem dX7_isIn_64 : decode cX7_isIn 64 = .ok (.invokestatic 69, 3) := by decide +kernel
theorem dX7_isIn_67 : decode cX7_isIn 67 = .ok (.ireturn, 1) := by decide +kernel
theorem dX7_isIn_68 : decode cX7_isIn 68 = .ok (.iload_n 1, 1) := by decide +kernel
theorem dX7_isIn_69 : decode cX7_isIn 69 = .ok (.i2l, 1) := by decide +kernel
theorem dX7_isIn_70 : decode cX7_isIn 70 = .ok (.lconst 1, 1) := by decide +kernel
theorem dX7_isIn_71 : decode cX7_isIn 71 = .ok (.ldc2_w 56, 3) := by decide +kernel
theorem dX7_isIn_74 : decode cX7_isIn 74 = .ok (.invokestatic 69, 3) := by decide +kernel
theorem dX7_isIn_77 : decode cX7_isIn 77 = .ok (.ireturn, 1) := by decide +kernel
theorem dX7_isIn_78 : decode cX7_isIn 78 = .ok (.iload_n 1, 1) := by decide +kernel
theorem dX7_isIn_79 : decode cX7_isIn 79 = .ok (.i2l, 1) := by decide +kernel
theorem dX7_isIn_80 : decode cX7_isIn 80 = .ok (.ldc2_w 73, 3) := by decide +kernel
theorem dX7_isIn_83 : decode cX7_isIn 83 = .ok (.ldc2_w 75, 3) := by decide +kernel
theorem dX7_isIn_86 : decode cX7_isIn 86 = .ok (.invokestatic 69, 3) := by decide +kernel
theorem dX7_isIn_89 : decode cX7_isIn 89 = .ok (.ireturn, 1) := by decide +kernel
theorem dX7_isIn_90 : decode cX7_isIn 90 = .ok (.iload_n 1, 1) := by decide +kernel
theorem dX7_isIn_91 : decode cX7_isIn 91 = .ok (.i2l, 1) := by decide +kernel
theorem dX7_isIn_92 : decode cX7_isIn 92 = .ok (.lconst 0, 1) := by decide +kernel
theorem dX7_isIn_93 : decode cX7_isIn 93 = .ok (.ldc2_w 56, 3) := by decide +kernel
theorem dX7_isIn_96 : decode cX7_isIn 96 = .ok (.invokestatic 69, 3) := by decide +kernel
theorem dX7_isIn_99 : decode cX7_isIn 99 = .ok (.ireturn, 1) := by decide +kernel
theorem dX7_isIn_100 : decode cX7_isIn 100 = .ok (.iload_n 1, 1) := by decide +kernel
theorem dX7_isIn_101 : decode cX7_isIn 101 = .ok (.i2l, 1) := by decide +kernel
theorem dX7_isIn_102 : decode cX7_isIn 102 = .ok (.lconst 0, 1) := by decide +kernel
theorem dX7_isIn_103 : decode cX7_isIn 103 = .ok (.ldc2_w 77, 3) := by decide +kernel
theorem dX7_isIn_106 : decode cX7_isIn 106 = .ok (.invokestatic 69, 3) := by decide +kernel
theorem dX7_isIn_109 : decode cX7_isIn 109 = .ok (.ireturn, 1) := by decide +kernel
theorem dX7_isIn_110 : decode cX7_isIn 110 = .ok (.iload_n 1, 1) := by decide +kernel
theorem dX7_isIn_111 : decode cX7_isIn 111 = .ok (.i2l, 1) := by decide +kernel
theorem dX7_isIn_112 : decode cX7_isIn 112 = .ok (.ldc2_w 73, 3) := by decide +kernel
theorem dX7_isIn_115 : decode cX7_isIn 115 = .ok (.ldc2_w 79, 3) := by decide +kernel
theorem dX7_isIn_118 : decode cX7_isIn 118 = .ok (.invokestatic 69, 3) := by decide +kernel
theorem dX7_isIn_121 : decode cX7_isIn 121 = .ok (.ireturn, 1) := by decide +kernel
theorem dX7_isIn_122 : decode cX7_isIn 122 = .ok (.iload_n 0, 1) := by decide +kernel
theorem dX7_isIn_123 : decode cX7_isIn 123 = .ok (.bipush 7, 2) := by decide +kernel
theorem dX7_isIn_125 : decode cX7_isIn 125 = .ok (.if_icmp .ne 19, 3) := by decide +kernel
theorem dX7_isIn_128 : decode cX7_isIn 128 = .ok (.iload_n 1, 1) := by decide +kernel
theorem dX7_isIn_129 : decode cX7_isIn 129 = .ok (.i2l, 1) := by decide +kernel
theorem dX7_isIn_130 : decode cX7_isIn 130 = .ok (.lconst 1, 1) := by decide +kernel
theorem dX7_isIn_131 : decode cX7_isIn 131 = .ok (.ldc2_w 73, 3) := by decide +kernel
theorem dX7_isIn_134 : decode cX7_isIn 134 = .ok (.invokestatic 69, 3) := by decide +kernel
theorem dX7_isIn_137 : decode cX7_isIn 137 = .ok (.ifCond .eq 7, 3) := by decide +kernel
theorem dX7_isIn_140 : decode cX7_isIn 140 = .ok (.iconst 1, 1) := by decide +kernel
theorem dX7_isIn_141 : decode cX7_isIn 141 = .ok (.goto 4, 3) := by decide +kernel
theorem dX7_isIn_144 : decode cX7_isIn 144 = .ok (.iconst 0, 1) := by decide +kernel
theorem dX7_isIn_145 : decode cX7_isIn 145 = .ok (.ireturn, 1) := by decide +kernel
set_option maxRecDepth 20000 in
theorem ggX7_set_X7_isIn : GoodIn wsX7_set wsX7_isIn := goodIn_r _ [5, 6, 7, 8, 9, 10, 11, 12, 13, 14, 4, 15] (by decide +kernel) (by decide +kernel)
set_option maxRecDepth 20000 in
theorem gX7_set_X7_isIn : GoodIn wsX7_set (va_wsS RX7 81 yX7_isIn wsX7_isIn) := goodIn_app (goodIn_of _ (by decide +kernel)) ggX7_set_X7_isIn
set_option maxRecDepth 20000 in
theorem ggX7_set_X7_sets : GoodIn wsX7_set wsX7_sets := goodIn_r _ [19, 20, 21, 22, 23, 4, 24, 25, 26, 27, 28, 29, 30, 31, 32, 33, 34, 35, 36, 37, 38, 39, 40, 41, 42, 43, 44, 45] (by decide +kernel) (by decide +kernel)
set_option maxRecDepth 20000 in
theorem gX7_set_X7_sets : GoodIn wsX7_set (wsV RX7 85 RX7 yX7_sets wsX7_sets) := goodIn_app (goodIn_of _ (by decide +kernel)) ggX7_set_X7_sets
theorem dX7_set_0 : decode cX7_set 0 = .ok (.iload_n 1, 1) := by decide +kernel
theorem dX7_set_1 : decode cX7_set 1 = .ok (.iload_n 2, 1) := by decide +kernel
theorem dX7_set_2 : decode cX7_set 2 = .ok (.invokestatic 81, 3) := by decide +kernel
theorem dX7_set_5 : decode cX7_set 5 = .ok (.ifCond .eq 12, 3) := by decide +kernel
theorem dX7_set_8 : decode cX7_set 8 = .ok (.aload_n 0, 1) := by decide +kernel
theorem dX7_set_9 : decode cX7_set 9 = .ok (.iload_n 1, 1) := by decide +kernel
theorem dX7_set_10 : decode cX7_set 10 = .ok (.iload_n 2, 1) := by decide +kernel
theorem dX7_set_11 : decode cX7_set 11 = .ok (.invokevirtual 85, 3) := by decide +kernel
theorem dX7_set_14 : decode cX7_set 14 = .ok (.goto 5, 3) := by decide +kernel
theorem dX7_set_17 : decode cX7_set 17 = .ok (.ldc 89, 2) := by decide +kernel
theorem dX7_set_19 : decode cX7_set 19 = .ok (.ireturn, 1) := by decide +kernel
set_option maxRecDepth 20000 in
theorem ggX7_setting_X7_in : GoodIn wsX7_setting wsX7_in := goodIn_r _ [7] (by decide +kernel) (by decide +kernel)
set_option maxRecDepth 20000 in
theorem gX7_setting_X7_in : GoodIn wsX7_setting (va_wsS RX7 69 yX7_in wsX7_in) := goodIn_app (goodIn_of _ (by decide +kernel)) ggX7_setting_X7_in
theorem dX7_setting_0 : decode cX7_setting 0 = .ok (.iload_n 1, 1) := by decide +kernel
theorem dX7_setting_1 : decode cX7_setting 1 = .ok (.i2l, 1) := by decide +kernel
theorem dX7_setting_2 : decode cX7_setting 2 = .ok (.lconst 0, 1) := by decide +kernel
theorem dX7_setting_3 : decode cX7_setting 3 = .ok (.ldc2_w 90, 3) := by decide +kernel
theorem dX7_setting_6 : decode cX7_setting 6 = .ok (.invokestatic 69, 3) := by decide +kernel
theorem dX7_setting_9 : decode cX7_setting 9 = .ok (.ifCond .eq 13, 3) := by decide +kernel
theorem dX7_setting_12 : decode cX7_setting 12 = .ok (.aload_n 0, 1) := by decide +kernel
theorem dX7_setting_13 : decode cX7_setting 13 = .ok (.getfield 7, 3) := by decide +kernel
theorem dX7_setting_16 : decode cX7_setting 16 = .ok (.iload_n 1, 1) := by decide +kernel
theorem dX7_setting_17 : decode cX7_setting 17 = .ok (.laload, 1) := by decide +kernel
theorem dX7_setting_18 : decode cX7_setting 18 = .ok (.l2i, 1) := by decide +kernel
theorem dX7_setting_19 : decode cX7_setting 19 = .ok (.goto 5, 3) := by decide +kernel
theorem dX7_setting_22 : decode cX7_setting 22 = .ok (.ldc 89, 2) := by decide +kernel
theorem dX7_setting_24 : decode cX7_setting 24 = .ok (.ireturn, 1) := by decide +kernel
set_option maxRecDepth 20000 in
theorem ggX7_load_X7_in : GoodIn wsX7_load wsX7_in := goodIn_r _ [7] (by decide +kernel) (by decide +kernel)
set_option maxRecDepth 20000 in
theorem gX7_load_X7_in : GoodIn wsX7_load (va_wsS RX7 69 yX7_in wsX7_in) := goodIn_app (goodIn_of _ (by decide +kernel)) ggX7_load_X7_in
set_option maxRecDepth 20000 in
theorem ggX7_load_X7_sets : GoodIn wsX7_load wsX7_sets := goodIn_r _ [11, 3, 12, 13, 14, 6, 15, 16, 17, 18, 19, 20, 21, 22, 23, 24, 25, 26, 27, 28, 29, 30, 31, 32, 33, 34, 35, 36] (by decide +kernel) (by decide +kernel)
set_option maxRecDepth 20000 in
theorem gX7_load_X7_sets : GoodIn wsX7_load (wsV RX7 85 RX7 yX7_sets wsX7_sets) := goodIn_app (goodIn_of _ (by decide +kernel)) ggX7_load_X7_sets
theorem dX7_load_0 : decode cX7_load 0 = .ok (.iload_n 1, 1) := by decide +kernel
theorem dX7_load_1 : decode cX7_load 1 = .ok (.i2l, 1) := by decide +kernel
theorem dX7_load_2 : decode cX7_load 2 = .ok (.lconst 0, 1) := by decide +kernel
theorem dX7_load_3 : decode cX7_load 3 = .ok (.ldc2_w 92, 3) := by decide +kernel
theorem dX7_load_6 : decode cX7_load 6 = .ok (.invokestatic 69, 3) := by decide +kernel
theorem dX7_load_9 : decode cX7_load 9 = .ok (.ifCond .ne 6, 3) := by decide +kernel
theorem dX7_load_12 : decode cX7_load 12 = .ok (.ldc 89, 2) := by decide +kernel
theorem dX7_load_14 : decode cX7_load 14 = .ok (.ireturn, 1) := by decide +kernel
theorem dX7_load_15 : decode cX7_load 15 = .ok (.aload_n 0, 1) := by decide +kernel
theorem dX7_load_16 : decode cX7_load 16 = .ok (.bipush 8, 2) := by decide +kernel
theorem dX7_load_18 : decode cX7_load 18 = .ok (.iload_n 1, 1) := by decide +kernel
theorem dX7_load_19 : decode cX7_load 19 = .ok (.invokevirtual 85, 3) := by decide +kernel
theorem dX7_load_22 : decode cX7_load 22 = .ok (.istore_n 2, 1) := by decide +kernel
theorem dX7_load_23 : decode cX7_load 23 = .ok (.aload_n 0, 1) := by decide +kernel
theorem dX7_load_24 : decode cX7_load 24 = .ok (.getfield 7, 3) := by decide +kernel
theorem dX7_load_27 : decode cX7_load 27 = .ok (.bipush 17, 2) := by decide +kernel
theorem dX7_load_29 : decode cX7_load 29 = .ok (.lconst 0, 1) := by decide +kernel
theorem dX7_load_30 : decode cX7_load 30 = .ok (.lastore, 1) := by decide +kernel
theorem dX7_load_31 : decode cX7_load 31 = .ok (.iload_n 2, 1) := by decide +kernel
theorem dX7_load_32 : decode cX7_load 32 = .ok (.ireturn, 1) := by decide +kernel
set_option maxRecDepth 20000 in
theorem ggX7_raw_X7_div : GoodIn wsX7_raw wsX7_div := goodIn_r _ [6] (by decide +kernel) (by decide +kernel)
set_option maxRecDepth 20000 in
theorem gX7_raw_X7_div : GoodIn wsX7_raw (va_wsS RX7 94 yX7_div wsX7_div) := goodIn_app (goodIn_of _ (by decide +kernel)) ggX7_raw_X7_div
theorem dX7_raw_0 : decode cX7_raw 0 = .ok (.aload_n 0, 1) := by decide +kernel
theorem dX7_raw_1 : decode cX7_raw 1 = .ok (.getfield 7, 3) := by decide +kernel
theorem dX7_raw_4 : decode cX7_raw 4 = .ok (.bipush 8, 2) := by decide +kernel
theorem dX7_raw_6 : decode cX7_raw 6 = .ok (.laload, 1) := by decide +kernel
theorem dX7_raw_7 : decode cX7_raw 7 = .ok (.ldc2_w 73, 3) := by decide +kernel
theorem dX7_raw_10 : decode cX7_raw 10 = .ok (.aload_n 0, 1) := by decide +kernel
theorem dX7_raw_11 : decode cX7_raw 11 = .ok (.getfield 7, 3) := by decide +kernel
theorem dX7_raw_14 : decode cX7_raw 14 = .ok (.iconst 1, 1) := by decide +kernel
theorem dX7_raw_15 : decode cX7_raw 15 = .ok (.laload, 1) := by decide +kernel
theorem dX7_raw_16 : decode cX7_raw 16 = .ok (.ladd, 1) := by decide +kernel
theorem dX7_raw_17 : decode cX7_raw 17 = .ok (.lmul, 1) := by decide +kernel
theorem dX7_raw_18 : decode cX7_raw 18 = .ok (.ldc2_w 73, 3) := by decide +kernel
theorem dX7_raw_21 : decode cX7_raw 21 = .ok (.invokestatic 94, 3) := by decide +kernel
theorem dX7_raw_24 : decode cX7_raw 24 = .ok (.aload_n 0, 1) := by decide +kernel
theorem dX7_raw_25 : decode cX7_raw 25 = .ok (.getfield 7, 3) := by decide +kernel
theorem dX7_raw_28 : decode cX7_raw 28 = .ok (.bipush 9, 2) := by decide +kernel
theorem dX7_raw_30 : decode cX7_raw 30 = .ok (.laload, 1) := by decide +kernel
theorem dX7_raw_31 : decode cX7_raw 31 = .ok (.ladd, 1) := by decide +kernel
theorem dX7_raw_32 : decode cX7_raw 32 = .ok (.lreturn, 1) := by decide +kernel
theorem dX7_size_0 : decode cX7_size 0 = .ok (.lload_n 0, 1) := by decide +kernel
theorem dX7_size_1 : decode cX7_size 1 = .ok (.lconst 0, 1) := by decide +kernel
theorem dX7_size_2 : decode cX7_size 2 = .ok (.lcmp, 1) := by decide +kernel
theorem dX7_size_3 : decode cX7_size 3 = .ok (.ifCond .ge 8, 3) := by decide +kernel
theorem dX7_size_6 : decode cX7_size 6 = .ok (.lload_n 0, 1) := by decide +kernel
theorem dX7_size_7 : decode cX7_size 7 = .ok (.lneg, 1) := by decide +kernel
theorem dX7_size_8 : decode cX7_size 8 = .ok (.goto 4, 3) := by decide +kernel
theorem dX7_size_11 : decode cX7_size 11 = .ok (.lload_n 0, 1) := by decide +kernel
theorem dX7_size_12 : decode cX7_size 12 = .ok (.lreturn, 1) := by decide +kernel
set_option maxRecDepth 20000 in
theorem ggX7_passes_X7_raw : GoodIn wsX7_passes wsX7_raw := goodIn_r _ [7, 1, 8, 9, 10, 6, 11, 15, 16, 17, 18, 19, 20, 21, 22, 23, 24, 25, 26, 27, 28, 29, 30, 31, 32, 33] (by decide +kernel) (by decide +kernel)
set_option maxRecDepth 20000 in
theorem gX7_passes_X7_raw : GoodIn wsX7_passes (wsV RX7 100 RX7 yX7_raw wsX7_raw) := goodIn_app (goodIn_of _ (by decide +kernel)) ggX7_passes_X7_raw
set_option maxRecDepth 20000 in
theorem ggX7_passes_X7_size : GoodIn wsX7_passes wsX7_size := goodIn_r _ [14] (by decide +kernel) (by decide +kernel)
set_option maxRecDepth 20000 in
theorem gX7_passes_X7_size : GoodIn wsX7_passes (va_wsS RX7 104 yX7_size wsX7_size) := goodIn_app (goodIn_of _ (by decide +kernel)) ggX7_passes_X7_size
theorem dX7_passes_0 : decode cX7_passes 0 = .ok (.aload_n 0, 1) := by decide +kernel
theorem dX7_passes_1 : decode cX7_passes 1 = .ok (.getfield 7, 3) := by decide +kernel
theorem dX7_passes_4 : decode cX7_passes 4 = .ok (.bipush 13, 2) := by decide +kernel
theorem dX7_passes_6 : decode cX7_passes 6 = .ok (.dup2, 1) := by decide +kernel
theorem dX7_passes_7 : decode cX7_passes 7 = .ok (.laload, 1) := by decide +kernel
theorem dX7_passes_8 : decode cX7_passes 8 = .ok (.lconst 1, 1) := by decide +kernel
theorem dX7_passes_9 : decode cX7_passes 9 = .ok (.ladd, 1) := by decide +kernel
theorem dX7_passes_10 : decode cX7_passes 10 = .ok (.lastore, 1) := by decide +kernel
theorem dX7_passes_11 : decode cX7_passes 11 = .ok (.aload_n 0, 1) := by decide +kernel
theorem dX7_passes_12 : decode cX7_passes 12 = .ok (.getfield 7, 3) := by decide +kernel
theorem dX7_passes_15 : decode cX7_passes 15 = .ok (.bipush 9, 2) := by decide +kernel
theorem dX7_passes_17 : decode cX7_passes 17 = .ok (.dup2, 1) := by decide +kernel
theorem dX7_passes_18 : decode cX7_passes 18 = .ok (.laload, 1) := by decide +kernel
theorem dX7_passes_19 : decode cX7_passes 19 = .ok (.aload_n 0, 1) := by decide +kernel
theorem dX7_passes_20 : decode cX7_passes 20 = .ok (.getfield 7, 3) := by decide +kernel
theorem dX7_passes_23 : decode cX7_passes 23 = .ok (.iconst 0, 1) := by decide +kernel
theorem dX7_passes_24 : decode cX7_passes 24 = .ok (.laload, 1) := by decide +kernel
theorem dX7_passes_25 : decode cX7_passes 25 = .ok (.ladd, 1) := by decide +kernel
theorem dX7_passes_26 : decode cX7_passes 26 = .ok (.lastore, 1) := by decide +kernel
theorem dX7_passes_27 : decode cX7_passes 27 = .ok (.aload_n 0, 1) := by decide +kernel
theorem dX7_passes_28 : decode cX7_passes 28 = .ok (.getfield 7, 3) := by decide +kernel
theorem dX7_passes_31 : decode cX7_passes 31 = .ok (.bipush 14, 2) := by decide +kernel
theorem dX7_passes_33 : decode cX7_passes 33 = .ok (.aload_n 0, 1) := by decide +kernel
theorem dX7_passes_34 : decode cX7_passes 34 = .ok (.getfield 7, 3) := by decide +kernel
theorem dX7_passes_37 : decode cX7_passes 37 = .ok (.bipush 17, 2) := by decide +kernel
theorem dX7_passes_39 : decode cX7_passes 39 = .ok (.laload, 1) := by decide +kernel
theorem dX7_passes_40 : decode cX7_passes 40 = .ok (.ldc2_w 98, 3) := by decide +kernel
theorem dX7_passes_43 : decode cX7_passes 43 = .ok (.lrem, 1) := by decide +kernel
theorem dX7_passes_44 : decode cX7_passes 44 = .ok (.l2i, 1) := by decide +kernel
theorem dX7_passes_45 : decode cX7_passes 45 = .ok (.iadd, 1) := by decide +kernel
theorem dX7_passes_46 : decode cX7_passes 46 = .ok (.aload_n 0, 1) := by decide +kernel
theorem dX7_passes_47 : decode cX7_passes 47 = .ok (.invokevirtual 100, 3) := by decide +kernel
theorem dX7_passes_50 : decode cX7_passes 50 = .ok (.lastore, 1) := by decide +kernel
theorem dX7_passes_51 : decode cX7_passes 51 = .ok (.aload_n 0, 1) := by decide +kernel
theorem dX7_passes_52 : decode cX7_passes 52 = .ok (.getfield 7, 3) := by decide +kernel
theorem dX7_passes_55 : decode cX7_passes 55 = .ok (.bipush 17, 2) := by decide +kernel
theorem dX7_passes_57 : decode cX7_passes 57 = .ok (.dup2, 1) := by decide +kernel
theorem dX7_passes_58 : decode cX7_passes 58 = .ok (.laload, 1) := by decide +kernel
theorem dX7_passes_59 : decode cX7_passes 59 = .ok (.lconst 1, 1) := by decide +kernel
theorem dX7_passes_60 : decode cX7_passes 60 = .ok (.ladd, 1) := by decide +kernel
theorem dX7_passes_61 : decode cX7_passes 61 = .ok (.lastore, 1) := by decide +kernel
theorem dX7_passes_62 : decode cX7_passes 62 = .ok (.aload_n 0, 1) := by decide +kernel
theorem dX7_passes_63 : decode cX7_passes 63 = .ok (.getfield 7, 3) := by decide +kernel
theorem dX7_passes_66 : decode cX7_passes 66 = .ok (.bipush 12, 2) := by decide +kernel
theorem dX7_passes_68 : decode cX7_passes 68 = .ok (.aload_n 0, 1) := by decide +kernel
theorem dX7_passes_69 : decode cX7_passes 69 = .ok (.invokevirtual 100, 3) := by decide +kernel
theorem dX7_passes_72 : decode cX7_passes 72 = .ok (.aload_n 0, 1) := by decide +kernel
theorem dX7_passes_73 : decode cX7_passes 73 = .ok (.getfield 7, 3) := by decide +kernel
theorem dX7_passes_76 : decode cX7_passes 76 = .ok (.bipush 10, 2) := by decide +kernel
theorem dX7_passes_78 : decode cX7_passes 78 = .ok (.laload, 1) := by decide +kernel
theorem dX7_passes_79 : decode cX7_passes 79 = .ok (.lsub, 1) := by decide +kernel
theorem dX7_passes_80 : decode cX7_passes 80 = .ok (.invokestatic 104, 3) := by decide +kernel
theorem dX7_passes_83 : decode cX7_passes 83 = .ok (.aload_n 0, 1) := by decide +kernel
theorem dX7_passes_84 : decode cX7_passes 84 = .ok (.getfield 7, 3) := by decide +kernel
theorem dX7_passes_87 : decode cX7_passes 87 = .ok (.iconst 5, 1) := by decide +kernel
theorem dX7_passes_88 : decode cX7_passes 88 = .ok (.laload, 1) := by decide +kernel
theorem dX7_passes_89 : decode cX7_passes 89 = .ok (.lcmp, 1) := by decide +kernel
theorem dX7_passes_90 : decode cX7_passes 90 = .ok (.ifCond .gt 15, 3) := by decide +kernel
theorem dX7_passes_93 : decode cX7_passes 93 = .ok (.aload_n 0, 1) := by decide +kernel
theorem dX7_passes_94 : decode cX7_passes 94 = .ok (.getfield 7, 3) := by decide +kernel
theorem dX7_passes_97 : decode cX7_passes 97 = .ok (.bipush 12, 2) := by decide +kernel
theorem dX7_passes_99 : decode cX7_passes 99 = .ok (.laload, 1) := by decide +kernel
theorem dX7_passes_100 : decode cX7_passes 100 = .ok (.lconst 1, 1) := by decide +kernel
theorem dX7_passes_101 : decode cX7_passes 101 = .ok (.ladd, 1) := by decide +kernel
theorem dX7_passes_102 : decode cX7_passes 102 = .ok (.goto 4, 3) := by decide +kernel
theorem dX7_passes_105 : decode cX7_passes 105 = .ok (.lconst 0, 1) := by decide +kernel
theorem dX7_passes_106 : decode cX7_passes 106 = .ok (.lastore, 1) := by decide +kernel
theorem dX7_passes_107 : decode cX7_passes 107 = .ok (.aload_n 0, 1) := by decide +kernel
theorem dX7_passes_108 : decode cX7_passes 108 = .ok (.getfield 7, 3) := by decide +kernel
theorem dX7_passes_111 : decode cX7_passes 111 = .ok (.bipush 12, 2) := by decide +kernel
theorem dX7_passes_113 : decode cX7_passes 113 = .ok (.laload, 1) := by decide +kernel
theorem dX7_passes_114 : decode cX7_passes 114 = .ok (.ldc2_w 98, 3) := by decide +kernel
theorem dX7_passes_117 : decode cX7_passes 117 = .ok (.lcmp, 1) := by decide +kernel
theorem dX7_passes_118 : decode cX7_passes 118 = .ok (.ifCond .ne 22, 3) := by decide +kernel
theorem dX7_passes_121 : decode cX7_passes 121 = .ok (.aload_n 0, 1) := by decide +kernel
theorem dX7_passes_122 : decode cX7_passes 122 = .ok (.getfield 7, 3) := by decide +kernel
theorem dX7_passes_125 : decode cX7_passes 125 = .ok (.bipush 10, 2) := by decide +kernel
theorem dX7_passes_127 : decode cX7_passes 127 = .ok (.aload_n 0, 1) := by decide +kernel
theorem dX7_passes_128 : decode cX7_passes 128 = .ok (.invokevirtual 100, 3) := by decide +kernel
theorem dX7_passes_131 : decode cX7_passes 131 = .ok (.lastore, 1) := by decide +kernel
theorem dX7_passes_132 : decode cX7_passes 132 = .ok (.aload_n 0, 1) := by decide +kernel
theorem dX7_passes_133 : decode cX7_passes 133 = .ok (.getfield 7, 3) := by decide +kernel
theorem dX7_passes_136 : decode cX7_passes 136 = .ok (.bipush 12, 2) := by decide +kernel
theorem dX7_passes_138 : decode cX7_passes 138 = .ok (.lconst 0, 1) := by decide +kernel
theorem dX7_passes_139 : decode cX7_passes 139 = .ok (.lastore, 1) := by decide +kernel
theorem dX7_passes_140 : decode cX7_passes 140 = .ok (.return_, 1) := by decide +kernel
set_option maxRecDepth 20000 in
theorem ggX7_tick_X7_in : GoodIn wsX7_tick wsX7_in := goodIn_r _ [9] (by decide +kernel) (by decide +kernel)
set_option maxRecDepth 20000 in
theorem gX7_tick_X7_in : GoodIn wsX7_tick (va_wsS RX7 69 yX7_in wsX7_in) := goodIn_app (goodIn_of _ (by decide +kernel)) ggX7_tick_X7_in
set_option maxRecDepth 20000 in
theorem ggX7_tick_X7_act : GoodIn wsX7_tick wsX7_act := goodIn_r _ [13, 14, 15, 3, 32, 33, 34, 35, 36, 37, 38, 39, 40, 41, 42, 43, 44, 45, 46, 47, 48, 49, 50] (by decide +kernel) (by decide +kernel)
set_option maxRecDepth 20000 in
theorem gX7_tick_X7_act : GoodIn wsX7_tick (wsV RX7 62 RX7 yX7_act wsX7_act) := goodIn_app (goodIn_of _ (by decide +kernel)) ggX7_tick_X7_act
set_option maxRecDepth 20000 in
theorem ggX7_tick_X7_passes : GoodIn wsX7_tick wsX7_passes := goodIn_r _ [19, 3, 20, 21, 22, 23, 8, 24, 25, 26, 27, 28, 29, 30, 31, 32, 33, 34, 35, 36, 37, 38, 39, 40, 41, 42, 43, 44, 45, 46, 47, 48, 49, 50] (by decide +kernel) (by decide +kernel)
set_option maxRecDepth 20000 in
theorem gX7_tick_X7_passes : GoodIn wsX7_tick (wsV RX7 109 RX7 yX7_passes wsX7_passes) := goodIn_app (goodIn_of _ (by decide +kernel)) ggX7_tick_X7_passes
set_option maxRecDepth 20000 in
theorem ggX7_tick_X7_raw : GoodIn wsX7_tick wsX7_raw := goodIn_r _ [24, 3, 25, 26, 27, 8, 28, 32, 33, 34, 35, 36, 37, 38, 39, 40, 41, 42, 43, 44, 45, 46, 47, 48, 49, 50] (by decide +kernel) (by decide +kernel)
set_option maxRecDepth 20000 in
theorem gX7_tick_X7_raw : GoodIn wsX7_tick (wsV RX7 100 RX7 yX7_raw wsX7_raw) := goodIn_app (goodIn_of _ (by decide +kernel)) ggX7_tick_X7_raw
theorem dX7_tick_0 : decode cX7_tick 0 = .ok (.iload_n 1, 1) := by decide +kernel
theorem dX7_tick_1 : decode cX7_tick 1 = .ok (.i2l, 1) := by decide +kernel
theorem dX7_tick_2 : decode cX7_tick 2 = .ok (.lconst 1, 1) := by decide +kernel
theorem dX7_tick_3 : decode cX7_tick 3 = .ok (.ldc2_w 56, 3) := by decide +kernel
theorem dX7_tick_6 : decode cX7_tick 6 = .ok (.invokestatic 69, 3) := by decide +kernel
theorem dX7_tick_9 : decode cX7_tick 9 = .ok (.ifCond .ne 6, 3) := by decide +kernel
theorem dX7_tick_12 : decode cX7_tick 12 = .ok (.ldc 89, 2) := by decide +kernel
theorem dX7_tick_14 : decode cX7_tick 14 = .ok (.ireturn, 1) := by decide +kernel
theorem dX7_tick_15 : decode cX7_tick 15 = .ok (.aload_n 0, 1) := by decide +kernel
theorem dX7_tick_16 : decode cX7_tick 16 = .ok (.getfield 7, 3) := by decide +kernel
theorem dX7_tick_19 : decode cX7_tick 19 = .ok (.bipush 13, 2) := by decide +kernel
theorem dX7_tick_21 : decode cX7_tick 21 = .ok (.laload, 1) := by decide +kernel
theorem dX7_tick_22 : decode cX7_tick 22 = .ok (.iload_n 1, 1) := by decide +kernel
theorem dX7_tick_23 : decode cX7_tick 23 = .ok (.i2l, 1) := by decide +kernel
theorem dX7_tick_24 : decode cX7_tick 24 = .ok (.ladd, 1) := by decide +kernel
theorem dX7_tick_25 : decode cX7_tick 25 = .ok (.ldc2_w 92, 3) := by decide +kernel
theorem dX7_tick_28 : decode cX7_tick 28 = .ok (.lcmp, 1) := by decide +kernel
theorem dX7_tick_29 : decode cX7_tick 29 = .ok (.ifCond .le 6, 3) := by decide +kernel
theorem dX7_tick_32 : decode cX7_tick 32 = .ok (.ldc 108, 2) := by decide +kernel
theorem dX7_tick_34 : decode cX7_tick 34 = .ok (.ireturn, 1) := by decide +kernel
theorem dX7_tick_35 : decode cX7_tick 35 = .ok (.aload_n 0, 1) := by decide +kernel
theorem dX7_tick_36 : decode cX7_tick 36 = .ok (.invokevirtual 62, 3) := by decide +kernel
theorem dX7_tick_39 : decode cX7_tick 39 = .ok (.iconst 0, 1) := by decide +kernel
theorem dX7_tick_40 : decode cX7_tick 40 = .ok (.istore_n 2, 1) := by decide +kernel
theorem dX7_tick_41 : decode cX7_tick 41 = .ok (.iload_n 2, 1) := by decide +kernel
theorem dX7_tick_42 : decode cX7_tick 42 = .ok (.iload_n 1, 1) := by decide +kernel
theorem dX7_tick_43 : decode cX7_tick 43 = .ok (.if_icmp .ge 13, 3) := by decide +kernel
theorem dX7_tick_46 : decode cX7_tick 46 = .ok (.aload_n 0, 1) := by decide +kernel
theorem dX7_tick_47 : decode cX7_tick 47 = .ok (.invokevirtual 109, 3) := by decide +kernel
theorem dX7_tick_50 : decode cX7_tick 50 = .ok (.iinc 2 1, 3) := by decide +kernel
theorem dX7_tick_53 : decode cX7_tick 53 = .ok (.goto (-12), 3) := by decide +kernel
theorem dX7_tick_56 : decode cX7_tick 56 = .ok (.aload_n 0, 1) := by decide +kernel
theorem dX7_tick_57 : decode cX7_tick 57 = .ok (.invokevirtual 100, 3) := by decide +kernel
theorem dX7_tick_60 : decode cX7_tick 60 = .ok (.l2i, 1) := by decide +kernel
theorem dX7_tick_61 : decode cX7_tick 61 = .ok (.ireturn, 1) := by decide +kernel
theorem dX7_isSteady_0 : decode cX7_isSteady 0 = .ok (.aload_n 0, 1) := by decide +kernel
theorem dX7_isSteady_1 : decode cX7_isSteady 1 = .ok (.getfield 7, 3) := by decide +kernel
theorem dX7_isSteady_4 : decode cX7_isSteady 4 = .ok (.bipush 14, 2) := by decide +kernel
theorem dX7_isSteady_6 : decode cX7_isSteady 6 = .ok (.laload, 1) := by decide +kernel
theorem dX7_isSteady_7 : decode cX7_isSteady 7 = .ok (.lstore_n 1, 1) := by decide +kernel
theorem dX7_isSteady_8 : decode cX7_isSteady 8 = .ok (.aload_n 0, 1) := by decide +kernel
theorem dX7_isSteady_9 : decode cX7_isSteady 9 = .ok (.getfield 7, 3) := by decide +kernel
theorem dX7_isSteady_12 : decode cX7_isSteady 12 = .ok (.bipush 14, 2) := by decide +kernel
theorem dX7_isSteady_14 : decode cX7_isSteady 14 = .ok (.laload, 1) := by decide +kernel
theorem dX7_isSteady_15 : decode cX7_isSteady 15 = .ok (.lstore_n 3, 1) := by decide +kernel
theorem dX7_isSteady_16 : decode cX7_isSteady 16 = .ok (.iconst 1, 1) := by decide +kernel
theorem dX7_isSteady_17 : decode cX7_isSteady 17 = .ok (.istore 5, 2) := by decide +kernel
theorem dX7_isSteady_19 : decode cX7_isSteady 19 = .ok (.iload 5, 2) := by decide +kernel
theorem dX7_isSteady_21 : decode cX7_isSteady 21 = .ok (.iconst 3, 1) := by decide +kernel
theorem dX7_isSteady_22 : decode cX7_isSteady 22 = .ok (.if_icmp .ge 69, 3) := by decide +kernel
theorem dX7_isSteady_25 : decode cX7_isSteady 25 = .ok (.aload_n 0, 1) := by decide +kernel
theorem dX7_isSteady_26 : decode cX7_isSteady 26 = .ok (.getfield 7, 3) := by decide +kernel
theorem dX7_isSteady_29 : decode cX7_isSteady 29 = .ok (.bipush 14, 2) := by decide +kernel
theorem dX7_isSteady_31 : decode cX7_isSteady 31 = .ok (.iload 5, 2) := by decide +kernel
theorem dX7_isSteady_33 : decode cX7_isSteady 33 = .ok (.iadd, 1) := by decide +kernel
theorem dX7_isSteady_34 : decode cX7_isSteady 34 = .ok (.laload, 1) := by decide +kernel
theorem dX7_isSteady_35 : decode cX7_isSteady 35 = .ok (.lload_n 1, 1) := by decide +kernel
theorem dX7_isSteady_36 : decode cX7_isSteady 36 = .ok (.lcmp, 1) := by decide +kernel
theorem dX7_isSteady_37 : decode cX7_isSteady 37 = .ok (.ifCond .le 16, 3) := by decide +kernel
theorem dX7_isSteady_40 : decode cX7_isSteady 40 = .ok (.aload_n 0, 1) := by decide +kernel
theorem dX7_isSteady_41 : decode cX7_isSteady 41 = .ok (.getfield 7, 3) := by decide +kernel
theorem dX7_isSteady_44 : decode cX7_isSteady 44 = .ok (.bipush 14, 2) := by decide +kernel
theorem dX7_isSteady_46 : decode cX7_isSteady 46 = .ok (.iload 5, 2) := by decide +kernel
theorem dX7_isSteady_48 : decode cX7_isSteady 48 = .ok (.iadd, 1) := by decide +kernel
theorem dX7_isSteady_49 : decode cX7_isSteady 49 = .ok (.laload, 1) := by decide +kernel
theorem dX7_isSteady_50 : decode cX7_isSteady 50 = .ok (.goto 4, 3) := by decide +kernel
theorem dX7_isSteady_53 : decode cX7_isSteady 53 = .ok (.lload_n 1, 1) := by decide +kernel
theorem dX7_isSteady_54 : decode cX7_isSteady 54 = .ok (.lstore_n 1, 1) := by decide +kernel
theorem dX7_isSteady_55 : decode cX7_isSteady 55 = .ok (.aload_n 0, 1) := by decide +kernel
theorem dX7_isSteady_56 : decode cX7_isSteady 56 = .ok (.getfield 7, 3) := by decide +kernel
theorem dX7_isSteady_59 : decode cX7_isSteady 59 = .ok (.bipush 14, 2) := by decide +kernel
theorem dX7_isSteady_61 : decode cX7_isSteady 61 = .ok (.iload 5, 2) := by decide +kernel
theorem dX7_isSteady_63 : decode cX7_isSteady 63 = .ok (.iadd, 1) := by decide +kernel
theorem dX7_isSteady_64 : decode cX7_isSteady 64 = .ok (.laload, 1) := by decide +kernel
theorem dX7_isSteady_65 : decode cX7_isSteady 65 = .ok (.lload_n 3, 1) := by decide +kernel
theorem dX7_isSteady_66 : decode cX7_isSteady 66 = .ok (.lcmp, 1) := by decide +kernel
theorem dX7_isSteady_67 : decode cX7_isSteady 67 = .ok (.ifCond .ge 16, 3) := by decide +kernel
theorem dX7_isSteady_70 : decode cX7_isSteady 70 = .ok (.aload_n 0, 1) := by decide +kernel
theorem dX7_isSteady_71 : decode cX7_isSteady 71 = .ok (.getfield 7, 3) := by decide +kernel
theorem dX7_isSteady_74 : decode cX7_isSteady 74 = .ok (.bipush 14, 2) := by decide +kernel
theorem dX7_isSteady_76 : decode cX7_isSteady 76 = .ok (.iload 5, 2) := by decide +kernel
theorem dX7_isSteady_78 : decode cX7_isSteady 78 = .ok (.iadd, 1) := by decide +kernel
theorem dX7_isSteady_79 : decode cX7_isSteady 79 = .ok (.laload, 1) := by decide +kernel
theorem dX7_isSteady_80 : decode cX7_isSteady 80 = .ok (.goto 4, 3) := by decide +kernel
theorem dX7_isSteady_83 : decode cX7_isSteady 83 = .ok (.lload_n 3, 1) := by decide +kernel
theorem dX7_isSteady_84 : decode cX7_isSteady 84 = .ok (.lstore_n 3, 1) := by decide +kernel
theorem dX7_isSteady_85 : decode cX7_isSteady 85 = .ok (.iinc 5 1, 3) := by decide +kernel
theorem dX7_isSteady_88 : decode cX7_isSteady 88 = .ok (.goto (-69), 3) := by decide +kernel
theorem dX7_isSteady_91 : decode cX7_isSteady 91 = .ok (.aload_n 0, 1) := by decide +kernel
theorem dX7_isSteady_92 : decode cX7_isSteady 92 = .ok (.getfield 7, 3) := by decide +kernel
theorem dX7_isSteady_95 : decode cX7_isSteady 95 = .ok (.bipush 17, 2) := by decide +kernel
theorem dX7_isSteady_97 : decode cX7_isSteady 97 = .ok (.laload, 1) := by decide +kernel
theorem dX7_isSteady_98 : decode cX7_isSteady 98 = .ok (.ldc2_w 98, 3) := by decide +kernel
theorem dX7_isSteady_101 : decode cX7_isSteady 101 = .ok (.lcmp, 1) := by decide +kernel
theorem dX7_isSteady_102 : decode cX7_isSteady 102 = .ok (.ifCond .lt 20, 3) := by decide +kernel
theorem dX7_isSteady_105 : decode cX7_isSteady 105 = .ok (.lload_n 1, 1) := by decide +kernel
theorem dX7_isSteady_106 : decode cX7_isSteady 106 = .ok (.lload_n 3, 1) := by decide +kernel
theorem dX7_isSteady_107 : decode cX7_isSteady 107 = .ok (.lsub, 1) := by decide +kernel
theorem dX7_isSteady_108 : decode cX7_isSteady 108 = .ok (.aload_n 0, 1) := by decide +kernel
theorem dX7_isSteady_109 : decode cX7_isSteady 109 = .ok (.getfield 7, 3) := by decide +kernel
theorem dX7_isSteady_112 : decode cX7_isSteady 112 = .ok (.iconst 4, 1) := by decide +kernel
theorem dX7_isSteady_113 : decode cX7_isSteady 113 = .ok (.laload, 1) := by decide +kernel
theorem dX7_isSteady_114 : decode cX7_isSteady 114 = .ok (.lcmp, 1) := by decide +kernel
theorem dX7_isSteady_115 : decode cX7_isSteady 115 = .ok (.ifCond .gt 7, 3) := by decide +kernel
theorem dX7_isSteady_118 : decode cX7_isSteady 118 = .ok (.iconst 1, 1) := by decide +kernel
theorem dX7_isSteady_119 : decode cX7_isSteady 119 = .ok (.goto 4, 3) := by decide +kernel
theorem dX7_isSteady_122 : decode cX7_isSteady 122 = .ok (.iconst 0, 1) := by decide +kernel
theorem dX7_isSteady_123 : decode cX7_isSteady 123 = .ok (.ireturn, 1) := by decide +kernel
set_option maxRecDepth 20000 in
theorem ggX7_isOver_X7_raw : GoodIn wsX7_isOver wsX7_raw := goodIn_r _ [6, 1, 7, 8, 9, 5, 10, 11, 12, 13, 14, 15, 16, 17, 18, 19, 20, 21, 22, 23, 24, 25, 26, 27, 28, 29] (by decide +kernel) (by decide +kernel)
set_option maxRecDepth 20000 in
theorem gX7_isOver_X7_raw : GoodIn wsX7_isOver (wsV RX7 100 RX7 yX7_raw wsX7_raw) := goodIn_app (goodIn_of _ (by decide +kernel)) ggX7_isOver_X7_raw
theorem dX7_isOver_0 : decode cX7_isOver 0 = .ok (.aload_n 0, 1) := by decide +kernel
theorem dX7_isOver_1 : decode cX7_isOver 1 = .ok (.invokevirtual 100, 3) := by decide +kernel
theorem dX7_isOver_4 : decode cX7_isOver 4 = .ok (.aload_n 0, 1) := by decide +kernel
theorem dX7_isOver_5 : decode cX7_isOver 5 = .ok (.getfield 7, 3) := by decide +kernel
theorem dX7_isOver_8 : decode cX7_isOver 8 = .ok (.bipush 10, 2) := by decide +kernel
theorem dX7_isOver_10 : decode cX7_isOver 10 = .ok (.laload, 1) := by decide +kernel
theorem dX7_isOver_11 : decode cX7_isOver 11 = .ok (.lsub, 1) := by decide +kernel
theorem dX7_isOver_12 : decode cX7_isOver 12 = .ok (.aload_n 0, 1) := by decide +kernel
theorem dX7_isOver_13 : decode cX7_isOver 13 = .ok (.getfield 7, 3) := by decide +kernel
theorem dX7_isOver_16 : decode cX7_isOver 16 = .ok (.iconst 3, 1) := by decide +kernel
theorem dX7_isOver_17 : decode cX7_isOver 17 = .ok (.laload, 1) := by decide +kernel
theorem dX7_isOver_18 : decode cX7_isOver 18 = .ok (.lcmp, 1) := by decide +kernel
theorem dX7_isOver_19 : decode cX7_isOver 19 = .ok (.ifCond .le 7, 3) := by decide +kernel
theorem dX7_isOver_22 : decode cX7_isOver 22 = .ok (.iconst 1, 1) := by decide +kernel
theorem dX7_isOver_23 : decode cX7_isOver 23 = .ok (.goto 4, 3) := by decide +kernel
theorem dX7_isOver_26 : decode cX7_isOver 26 = .ok (.iconst 0, 1) := by decide +kernel
theorem dX7_isOver_27 : decode cX7_isOver 27 = .ok (.ireturn, 1) := by decide +kernel
set_option maxRecDepth 20000 in
theorem ggX7_gross_X7_raw : GoodIn wsX7_gross wsX7_raw := goodIn_r _ [7, 1, 8, 9, 10, 6, 11, 12, 13, 14, 15, 16, 17, 18, 19, 20, 21, 22, 23, 24, 25, 26, 27, 28, 29, 30] (by decide +kernel) (by decide +kernel)
set_option maxRecDepth 20000 in
theorem gX7_gross_X7_raw : GoodIn wsX7_gross (wsV RX7 100 RX7 yX7_raw wsX7_raw) := goodIn_app (goodIn_of _ (by decide +kernel)) ggX7_gross_X7_raw
set_option maxRecDepth 20000 in
theorem ggX7_gross_X7_div : GoodIn wsX7_gross wsX7_div := goodIn_r _ [11] (by decide +kernel) (by decide +kernel)
set_option maxRecDepth 20000 in
theorem gX7_gross_X7_div : GoodIn wsX7_gross (va_wsS RX7 94 yX7_div wsX7_div) := goodIn_app (goodIn_of _ (by decide +kernel)) ggX7_gross_X7_div
theorem dX7_gross_0 : decode cX7_gross 0 = .ok (.aload_n 0, 1) := by decide +kernel
theorem dX7_gross_1 : decode cX7_gross 1 = .ok (.getfield 7, 3) := by decide +kernel
theorem dX7_gross_4 : decode cX7_gross 4 = .ok (.iconst 2, 1) := by decide +kernel
theorem dX7_gross_5 : decode cX7_gross 5 = .ok (.laload, 1) := by decide +kernel
theorem dX7_gross_6 : decode cX7_gross 6 = .ok (.ldc2_w 112, 3) := by decide +kernel
theorem dX7_gross_9 : decode cX7_gross 9 = .ok (.aload_n 0, 1) := by decide +kernel
theorem dX7_gross_10 : decode cX7_gross 10 = .ok (.invokevirtual 100, 3) := by decide +kernel
theorem dX7_gross_13 : decode cX7_gross 13 = .ok (.aload_n 0, 1) := by decide +kernel
theorem dX7_gross_14 : decode cX7_gross 14 = .ok (.getfield 7, 3) := by decide +kernel
theorem dX7_gross_17 : decode cX7_gross 17 = .ok (.bipush 10, 2) := by decide +kernel
theorem dX7_gross_19 : decode cX7_gross 19 = .ok (.laload, 1) := by decide +kernel
theorem dX7_gross_20 : decode cX7_gross 20 = .ok (.lsub, 1) := by decide +kernel
theorem dX7_gross_21 : decode cX7_gross 21 = .ok (.lmul, 1) := by decide +kernel
theorem dX7_gross_22 : decode cX7_gross 22 = .ok (.aload_n 0, 1) := by decide +kernel
theorem dX7_gross_23 : decode cX7_gross 23 = .ok (.getfield 7, 3) := by decide +kernel
theorem dX7_gross_26 : decode cX7_gross 26 = .ok (.iconst 2, 1) := by decide +kernel
theorem dX7_gross_27 : decode cX7_gross 27 = .ok (.laload, 1) := by decide +kernel
theorem dX7_gross_28 : decode cX7_gross 28 = .ok (.ladd, 1) := by decide +kernel
theorem dX7_gross_29 : decode cX7_gross 29 = .ok (.ldc2_w 112, 3) := by decide +kernel
theorem dX7_gross_32 : decode cX7_gross 32 = .ok (.aload_n 0, 1) := by decide +kernel
theorem dX7_gross_33 : decode cX7_gross 33 = .ok (.getfield 7, 3) := by decide +kernel
theorem dX7_gross_36 : decode cX7_gross 36 = .ok (.iconst 2, 1) := by decide +kernel
theorem dX7_gross_37 : decode cX7_gross 37 = .ok (.laload, 1) := by decide +kernel
theorem dX7_gross_38 : decode cX7_gross 38 = .ok (.lmul, 1) := by decide +kernel
theorem dX7_gross_39 : decode cX7_gross 39 = .ok (.invokestatic 94, 3) := by decide +kernel
theorem dX7_gross_42 : decode cX7_gross 42 = .ok (.lmul, 1) := by decide +kernel
theorem dX7_gross_43 : decode cX7_gross 43 = .ok (.lreturn, 1) := by decide +kernel
set_option maxRecDepth 20000 in
theorem ggX7_zero_X7_isSteady : GoodIn wsX7_zero wsX7_isSteady := goodIn_r _ [8, 1, 9, 31, 32, 33, 34, 35, 36, 37, 38, 39, 40, 41, 42, 43, 44, 45, 46, 47, 48, 49] (by decide +kernel) (by decide +kernel)
set_option maxRecDepth 20000 in
theorem gX7_zero_X7_isSteady : GoodIn wsX7_zero (wsV RX7 114 RX7 yX7_isSteady wsX7_isSteady) := goodIn_app (goodIn_of _ (by decide +kernel)) ggX7_zero_X7_isSteady
set_option maxRecDepth 20000 in
theorem ggX7_zero_X7_raw : GoodIn wsX7_zero wsX7_raw := goodIn_r _ [13, 1, 14, 15, 16, 7, 17, 31, 32, 33, 34, 35, 36, 37, 38, 39, 40, 41, 42, 43, 44, 45, 46, 47, 48, 49] (by decide +kernel) (by decide +kernel)
set_option maxRecDepth 20000 in
theorem gX7_zero_X7_raw : GoodIn wsX7_zero (wsV RX7 100 RX7 yX7_raw wsX7_raw) := goodIn_app (goodIn_of _ (by decide +kernel)) ggX7_zero_X7_raw
set_option maxRecDepth 20000 in
theorem ggX7_zero_X7_size : GoodIn wsX7_zero wsX7_size := goodIn_r _ [20] (by decide +kernel) (by decide +kernel)
set_option maxRecDepth 20000 in
theorem gX7_zero_X7_size : GoodIn wsX7_zero (va_wsS RX7 104 yX7_size wsX7_size) := goodIn_app (goodIn_of _ (by decide +kernel)) ggX7_zero_X7_size
set_option maxRecDepth 20000 in
theorem ggX7_zero_X7_sets : GoodIn wsX7_zero wsX7_sets := goodIn_r _ [24, 1, 25, 26, 27, 7, 28, 29, 30, 31, 32, 33, 34, 35, 36, 37, 38, 39, 40, 41, 42, 43, 44, 45, 46, 47, 48, 49] (by decide +kernel) (by decide +kernel)
set_option maxRecDepth 20000 in
theorem gX7_zero_X7_sets : GoodIn wsX7_zero (wsV RX7 85 RX7 yX7_sets wsX7_sets) := goodIn_app (goodIn_of _ (by decide +kernel)) ggX7_zero_X7_sets
theorem dX7_zero_0 : decode cX7_zero 0 = .ok (.aload_n 0, 1) := by decide +kernel
theorem dX7_zero_1 : decode cX7_zero 1 = .ok (.invokevirtual 114, 3) := by decide +kernel
theorem dX7_zero_4 : decode cX7_zero 4 = .ok (.ifCond .eq 32, 3) := by decide +kernel
theorem dX7_zero_7 : decode cX7_zero 7 = .ok (.aload_n 0, 1) := by decide +kernel
theorem dX7_zero_8 : decode cX7_zero 8 = .ok (.invokevirtual 100, 3) := by decide +kernel
theorem dX7_zero_11 : decode cX7_zero 11 = .ok (.aload_n 0, 1) := by decide +kernel
theorem dX7_zero_12 : decode cX7_zero 12 = .ok (.getfield 7, 3) := by decide +kernel
theorem dX7_zero_15 : decode cX7_zero 15 = .ok (.bipush 10, 2) := by decide +kernel
theorem dX7_zero_17 : decode cX7_zero 17 = .ok (.laload, 1) := by decide +kernel
theorem dX7_zero_18 : decode cX7_zero 18 = .ok (.lsub, 1) := by decide +kernel
theorem dX7_zero_19 : decode cX7_zero 19 = .ok (.invokestatic 104, 3) := by decide +kernel
theorem dX7_zero_22 : decode cX7_zero 22 = .ok (.aload_n 0, 1) := by decide +kernel
theorem dX7_zero_23 : decode cX7_zero 23 = .ok (.getfield 7, 3) := by decide +kernel
theorem dX7_zero_26 : decode cX7_zero 26 = .ok (.iconst 3, 1) := by decide +kernel
theorem dX7_zero_27 : decode cX7_zero 27 = .ok (.laload, 1) := by decide +kernel
theorem dX7_zero_28 : decode cX7_zero 28 = .ok (.ldc2_w 67, 3) := by decide +kernel
theorem dX7_zero_31 : decode cX7_zero 31 = .ok (.ldiv, 1) := by decide +kernel
theorem dX7_zero_32 : decode cX7_zero 32 = .ok (.lcmp, 1) := by decide +kernel
theorem dX7_zero_33 : decode cX7_zero 33 = .ok (.ifCond .le 6, 3) := by decide +kernel
theorem dX7_zero_36 : decode cX7_zero 36 = .ok (.ldc 108, 2) := by decide +kernel
theorem dX7_zero_38 : decode cX7_zero 38 = .ok (.ireturn, 1) := by decide +kernel
theorem dX7_zero_39 : decode cX7_zero 39 = .ok (.aload_n 0, 1) := by decide +kernel
theorem dX7_zero_40 : decode cX7_zero 40 = .ok (.bipush 10, 2) := by decide +kernel
theorem dX7_zero_42 : decode cX7_zero 42 = .ok (.aload_n 0, 1) := by decide +kernel
theorem dX7_zero_43 : decode cX7_zero 43 = .ok (.invokevirtual 100, 3) := by decide +kernel
theorem dX7_zero_46 : decode cX7_zero 46 = .ok (.l2i, 1) := by decide +kernel
theorem dX7_zero_47 : decode cX7_zero 47 = .ok (.invokevirtual 85, 3) := by decide +kernel
theorem dX7_zero_50 : decode cX7_zero 50 = .ok (.istore_n 1, 1) := by decide +kernel
theorem dX7_zero_51 : decode cX7_zero 51 = .ok (.aload_n 0, 1) := by decide +kernel
theorem dX7_zero_52 : decode cX7_zero 52 = .ok (.getfield 7, 3) := by decide +kernel
theorem dX7_zero_55 : decode cX7_zero 55 = .ok (.bipush 11, 2) := by decide +kernel
theorem dX7_zero_57 : decode cX7_zero 57 = .ok (.lconst 0, 1) := by decide +kernel
theorem dX7_zero_58 : decode cX7_zero 58 = .ok (.lastore, 1) := by decide +kernel
theorem dX7_zero_59 : decode cX7_zero 59 = .ok (.iload_n 1, 1) := by decide +kernel
theorem dX7_zero_60 : decode cX7_zero 60 = .ok (.ireturn, 1) := by decide +kernel
set_option maxRecDepth 20000 in
theorem ggX7_tare_X7_isSteady : GoodIn wsX7_tare wsX7_isSteady := goodIn_r _ [7, 2, 8, 32, 33, 34, 35, 36, 37, 38, 39, 40, 41, 42, 43, 44, 45, 46, 47, 48, 49, 50] (by decide +kernel) (by decide +kernel)
set_option maxRecDepth 20000 in
theorem gX7_tare_X7_isSteady : GoodIn wsX7_tare (wsV RX7 114 RX7 yX7_isSteady wsX7_isSteady) := goodIn_app (goodIn_of _ (by decide +kernel)) ggX7_tare_X7_isSteady
set_option maxRecDepth 20000 in
theorem ggX7_tare_X7_isOver : GoodIn wsX7_tare wsX7_isOver := goodIn_r _ [12, 2, 13, 14, 15, 6, 16, 17, 18, 19, 20, 32, 33, 34, 35, 36, 37, 38, 39, 40, 41, 42, 43, 44, 45, 46, 47, 48, 49, 50] (by decide +kernel) (by decide +kernel)
set_option maxRecDepth 20000 in
theorem gX7_tare_X7_isOver : GoodIn wsX7_tare (wsV RX7 118 RX7 yX7_isOver wsX7_isOver) := goodIn_app (goodIn_of _ (by decide +kernel)) ggX7_tare_X7_isOver
set_option maxRecDepth 20000 in
theorem ggX7_tare_X7_gross : GoodIn wsX7_tare wsX7_gross := goodIn_r _ [24, 2, 25, 13, 14, 15, 6, 16, 17, 18, 19, 20, 32, 33, 34, 35, 36, 37, 38, 39, 40, 41, 42, 43, 44, 45, 46, 47, 48, 49, 50] (by decide +kernel) (by decide +kernel)
set_option maxRecDepth 20000 in
theorem gX7_tare_X7_gross : GoodIn wsX7_tare (wsV RX7 121 RX7 yX7_gross wsX7_gross) := goodIn_app (goodIn_of _ (by decide +kernel)) ggX7_tare_X7_gross
set_option maxRecDepth 20000 in
theorem ggX7_tare_X7_act : GoodIn wsX7_tare wsX7_act := goodIn_r _ [29, 30, 31, 2, 32, 33, 34, 35, 36, 37, 38, 39, 40, 41, 42, 43, 44, 45, 46, 47, 48, 49, 50] (by decide +kernel) (by decide +kernel)
set_option maxRecDepth 20000 in
theorem gX7_tare_X7_act : GoodIn wsX7_tare (wsV RX7 62 RX7 yX7_act wsX7_act) := goodIn_app (goodIn_of _ (by decide +kernel)) ggX7_tare_X7_act
theorem dX7_tare_0 : decode cX7_tare 0 = .ok (.aload_n 0, 1) := by decide +kernel
theorem dX7_tare_1 : decode cX7_tare 1 = .ok (.invokevirtual 114, 3) := by decide +kernel
theorem dX7_tare_4 : decode cX7_tare 4 = .ok (.ifCond .eq 19, 3) := by decide +kernel
theorem dX7_tare_7 : decode cX7_tare 7 = .ok (.aload_n 0, 1) := by decide +kernel
theorem dX7_tare_8 : decode cX7_tare 8 = .ok (.invokevirtual 118, 3) := by decide +kernel
theorem dX7_tare_11 : decode cX7_tare 11 = .ok (.ifCond .ne 12, 3) := by decide +kernel
theorem dX7_tare_14 : decode cX7_tare 14 = .ok (.aload_n 0, 1) := by decide +kernel
theorem dX7_tare_15 : decode cX7_tare 15 = .ok (.invokevirtual 121, 3) := by decide +kernel
theorem dX7_tare_18 : decode cX7_tare 18 = .ok (.lconst 0, 1) := by decide +kernel
theorem dX7_tare_19 : decode cX7_tare 19 = .ok (.lcmp, 1) := by decide +kernel
theorem dX7_tare_20 : decode cX7_tare 20 = .ok (.ifCond .ge 6, 3) := by decide +kernel
theorem dX7_tare_23 : decode cX7_tare 23 = .ok (.ldc 108, 2) := by decide +kernel
theorem dX7_tare_25 : decode cX7_tare 25 = .ok (.ireturn, 1) := by decide +kernel
theorem dX7_tare_26 : decode cX7_tare 26 = .ok (.aload_n 0, 1) := by decide +kernel
theorem dX7_tare_27 : decode cX7_tare 27 = .ok (.invokevirtual 62, 3) := by decide +kernel
theorem dX7_tare_30 : decode cX7_tare 30 = .ok (.aload_n 0, 1) := by decide +kernel
theorem dX7_tare_31 : decode cX7_tare 31 = .ok (.getfield 7, 3) := by decide +kernel
theorem dX7_tare_34 : decode cX7_tare 34 = .ok (.bipush 11, 2) := by decide +kernel
theorem dX7_tare_36 : decode cX7_tare 36 = .ok (.aload_n 0, 1) := by decide +kernel
theorem dX7_tare_37 : decode cX7_tare 37 = .ok (.invokevirtual 121, 3) := by decide +kernel
theorem dX7_tare_40 : decode cX7_tare 40 = .ok (.lastore, 1) := by decide +kernel
theorem dX7_tare_41 : decode cX7_tare 41 = .ok (.aload_n 0, 1) := by decide +kernel
theorem dX7_tare_42 : decode cX7_tare 42 = .ok (.getfield 7, 3) := by decide +kernel
theorem dX7_tare_45 : decode cX7_tare 45 = .ok (.bipush 11, 2) := by decide +kernel
theorem dX7_tare_47 : decode cX7_tare 47 = .ok (.laload, 1) := by decide +kernel
theorem dX7_tare_48 : decode cX7_tare 48 = .ok (.l2i, 1) := by decide +kernel
theorem dX7_tare_49 : decode cX7_tare 49 = .ok (.ireturn, 1) := by decide +kernel
set_option maxRecDepth 20000 in
theorem ggX7_scaleOf_X7_raw : GoodIn wsX7_scaleOf wsX7_raw := goodIn_r _ [6, 1, 7, 8, 9, 5, 10, 25, 26, 27, 28, 29, 30, 31, 32, 33, 34, 35, 36, 37, 38, 39, 40, 41, 42, 43] (by decide +kernel) (by decide +kernel)
set_option maxRecDepth 20000 in
theorem gX7_scaleOf_X7_raw : GoodIn wsX7_scaleOf (wsV RX7 100 RX7 yX7_raw wsX7_raw) := goodIn_app (goodIn_of _ (by decide +kernel)) ggX7_scaleOf_X7_raw
set_option maxRecDepth 20000 in
theorem ggX7_scaleOf_X7_gross : GoodIn wsX7_scaleOf wsX7_gross := goodIn_r _ [14, 1, 15, 2, 3, 4, 5, 6, 7, 8, 9, 10, 25, 26, 27, 28, 29, 30, 31, 32, 33, 34, 35, 36, 37, 38, 39, 40, 41, 42, 43] (by decide +kernel) (by decide +kernel)
set_option maxRecDepth 20000 in
theorem gX7_scaleOf_X7_gross : GoodIn wsX7_scaleOf (wsV RX7 121 RX7 yX7_gross wsX7_gross) := goodIn_app (goodIn_of _ (by decide +kernel)) ggX7_scaleOf_X7_gross
set_option maxRecDepth 20000 in
theorem ggX7_scaleOf_X7_isSteady : GoodIn wsX7_scaleOf wsX7_isSteady := goodIn_r _ [19, 1, 20, 25, 26, 27, 28, 29, 30, 31, 32, 33, 34, 35, 36, 37, 38, 39, 40, 41, 42, 43] (by decide +kernel) (by decide +kernel)
set_option maxRecDepth 20000 in
theorem gX7_scaleOf_X7_isSteady : GoodIn wsX7_scaleOf (wsV RX7 114 RX7 yX7_isSteady wsX7_isSteady) := goodIn_app (goodIn_of _ (by decide +kernel)) ggX7_scaleOf_X7_isSteady
set_option maxRecDepth 20000 in
theorem ggX7_scaleOf_X7_isOver : GoodIn wsX7_scaleOf wsX7_isOver := goodIn_r _ [24, 1, 2, 3, 4, 5, 6, 7, 8, 9, 10, 25, 26, 27, 28, 29, 30, 31, 32, 33, 34, 35, 36, 37, 38, 39, 40, 41, 42, 43] (by decide +kernel) (by decide +kernel)
set_option maxRecDepth 20000 in
theorem gX7_scaleOf_X7_isOver : GoodIn wsX7_scaleOf (wsV RX7 118 RX7 yX7_isOver wsX7_isOver) := goodIn_app (goodIn_of _ (by decide +kernel)) ggX7_scaleOf_X7_isOver
theorem dX7_scaleOf_0 : decode cX7_scaleOf 0 = .ok (.iload_n 1, 1) := by decide +kernel
theorem dX7_scaleOf_1 : decode cX7_scaleOf 1 = .ok (.tableswitch 144 0 9 #[55, 63, 68, 73, 86, 94, 102, 110, 123, 136], 55) := by decide +kernel
theorem dX7_scaleOf_56 : decode cX7_scaleOf 56 = .ok (.aload_n 0, 1) := by decide +kernel
theorem dX7_scaleOf_57 : decode cX7_scaleOf 57 = .ok (.getfield 7, 3) := by decide +kernel
theorem dX7_scaleOf_60 : decode cX7_scaleOf 60 = .ok (.bipush 13, 2) := by decide +kernel
theorem dX7_scaleOf_62 : decode cX7_scaleOf 62 = .ok (.laload, 1) := by decide +kernel
theorem dX7_scaleOf_63 : decode cX7_scaleOf 63 = .ok (.lreturn, 1) := by decide +kernel
theorem dX7_scaleOf_64 : decode cX7_scaleOf 64 = .ok (.aload_n 0, 1) := by decide +kernel
theorem dX7_scaleOf_65 : decode cX7_scaleOf 65 = .ok (.invokevirtual 100, 3) := by decide +kernel
theorem dX7_scaleOf_68 : decode cX7_scaleOf 68 = .ok (.lreturn, 1) := by decide +kernel
theorem dX7_scaleOf_69 : decode cX7_scaleOf 69 = .ok (.aload_n 0, 1) := by decide +kernel
theorem dX7_scaleOf_70 : decode cX7_scaleOf 70 = .ok (.invokevirtual 121, 3) := by decide +kernel
theorem dX7_scaleOf_73 : decode cX7_scaleOf 73 = .ok (.lreturn, 1) := by decide +kernel
theorem dX7_scaleOf_74 : decode cX7_scaleOf 74 = .ok (.aload_n 0, 1) := by decide +kernel
theorem dX7_scaleOf_75 : decode cX7_scaleOf 75 = .ok (.invokevirtual 121, 3) := by decide +kernel
theorem dX7_scaleOf_78 : decode cX7_scaleOf 78 = .ok (.aload_n 0, 1) := by decide +kernel
theorem dX7_scaleOf_79 : decode cX7_scaleOf 79 = .ok (.getfield 7, 3) := by decide +kernel
theorem dX7_scaleOf_82 : decode cX7_scaleOf 82 = .ok (.bipush 11, 2) := by decide +kernel
theorem dX7_scaleOf_84 : decode cX7_scaleOf 84 = .ok (.laload, 1) := by decide +kernel
theorem dX7_scaleOf_85 : decode cX7_scaleOf 85 = .ok (.lsub, 1) := by decide +kernel
theorem dX7_scaleOf_86 : decode cX7_scaleOf 86 = .ok (.lreturn, 1) := by decide +kernel
theorem dX7_scaleOf_87 : decode cX7_scaleOf 87 = .ok (.aload_n 0, 1) := by decide +kernel
theorem dX7_scaleOf_88 : decode cX7_scaleOf 88 = .ok (.getfield 7, 3) := by decide +kernel
theorem dX7_scaleOf_91 : decode cX7_scaleOf 91 = .ok (.bipush 10, 2) := by decide +kernel
theorem dX7_scaleOf_93 : decode cX7_scaleOf 93 = .ok (.laload, 1) := by decide +kernel
theorem dX7_scaleOf_94 : decode cX7_scaleOf 94 = .ok (.lreturn, 1) := by decide +kernel
theorem dX7_scaleOf_95 : decode cX7_scaleOf 95 = .ok (.aload_n 0, 1) := by decide +kernel
theorem dX7_scaleOf_96 : decode cX7_scaleOf 96 = .ok (.getfield 7, 3) := by decide +kernel
theorem dX7_scaleOf_99 : decode cX7_scaleOf 99 = .ok (.bipush 11, 2) := by decide +kernel
theorem dX7_scaleOf_101 : decode cX7_scaleOf 101 = .ok (.laload, 1) := by decide +kernel
theorem dX7_scaleOf_102 : decode cX7_scaleOf 102 = .ok (.lreturn, 1) := by decide +kernel
theorem dX7_scaleOf_103 : decode cX7_scaleOf 103 = .ok (.aload_n 0, 1) := by decide +kernel
theorem dX7_scaleOf_104 : decode cX7_scaleOf 104 = .ok (.getfield 7, 3) := by decide +kernel
theorem dX7_scaleOf_107 : decode cX7_scaleOf 107 = .ok (.bipush 9, 2) := by decide +kernel
theorem dX7_scaleOf_109 : decode cX7_scaleOf 109 = .ok (.laload, 1) := by decide +kernel
theorem dX7_scaleOf_110 : decode cX7_scaleOf 110 = .ok (.lreturn, 1) := by decide +kernel
theorem dX7_scaleOf_111 : decode cX7_scaleOf 111 = .ok (.aload_n 0, 1) := by decide +kernel
theorem dX7_scaleOf_112 : decode cX7_scaleOf 112 = .ok (.invokevirtual 114, 3) := by decide +kernel
theorem dX7_scaleOf_115 : decode cX7_scaleOf 115 = .ok (.ifCond .eq 7, 3) := by decide +kernel
theorem dX7_scaleOf_118 : decode cX7_scaleOf 118 = .ok (.lconst 1, 1) := by decide +kernel
theorem dX7_scaleOf_119 : decode cX7_scaleOf 119 = .ok (.goto 4, 3) := by decide +kernel
theorem dX7_scaleOf_122 : decode cX7_scaleOf 122 = .ok (.lconst 0, 1) := by decide +kernel
theorem dX7_scaleOf_123 : decode cX7_scaleOf 123 = .ok (.lreturn, 1) := by decide +kernel
theorem dX7_scaleOf_124 : decode cX7_scaleOf 124 = .ok (.aload_n 0, 1) := by decide +kernel
theorem dX7_scaleOf_125 : decode cX7_scaleOf 125 = .ok (.invokevirtual 118, 3) := by decide +kernel
theorem dX7_scaleOf_128 : decode cX7_scaleOf 128 = .ok (.ifCond .eq 7, 3) := by decide +kernel
theorem dX7_scaleOf_131 : decode cX7_scaleOf 131 = .ok (.lconst 1, 1) := by decide +kernel
theorem dX7_scaleOf_132 : decode cX7_scaleOf 132 = .ok (.goto 4, 3) := by decide +kernel
theorem dX7_scaleOf_135 : decode cX7_scaleOf 135 = .ok (.lconst 0, 1) := by decide +kernel
theorem dX7_scaleOf_136 : decode cX7_scaleOf 136 = .ok (.lreturn, 1) := by decide +kernel
theorem dX7_scaleOf_137 : decode cX7_scaleOf 137 = .ok (.aload_n 0, 1) := by decide +kernel
theorem dX7_scaleOf_138 : decode cX7_scaleOf 138 = .ok (.getfield 7, 3) := by decide +kernel
theorem dX7_scaleOf_141 : decode cX7_scaleOf 141 = .ok (.bipush 12, 2) := by decide +kernel
theorem dX7_scaleOf_143 : decode cX7_scaleOf 143 = .ok (.laload, 1) := by decide +kernel
theorem dX7_scaleOf_144 : decode cX7_scaleOf 144 = .ok (.lreturn, 1) := by decide +kernel
theorem dX7_scaleOf_145 : decode cX7_scaleOf 145 = .ok (.aload_n 0, 1) := by decide +kernel
theorem dX7_scaleOf_146 : decode cX7_scaleOf 146 = .ok (.getfield 7, 3) := by decide +kernel
theorem dX7_scaleOf_149 : decode cX7_scaleOf 149 = .ok (.bipush 8, 2) := by decide +kernel
theorem dX7_scaleOf_151 : decode cX7_scaleOf 151 = .ok (.laload, 1) := by decide +kernel
theorem dX7_scaleOf_152 : decode cX7_scaleOf 152 = .ok (.lreturn, 1) := by decide +kernel
set_option maxRecDepth 20000 in
theorem ggX7_scale_X7_in : GoodIn wsX7_scale wsX7_in := goodIn_r _ [6] (by decide +kernel) (by decide +kernel)
set_option maxRecDepth 20000 in
theorem gX7_scale_X7_in : GoodIn wsX7_scale (va_wsS RX7 69 yX7_in wsX7_in) := goodIn_app (goodIn_of _ (by decide +kernel)) ggX7_scale_X7_in
set_option maxRecDepth 20000 in
theorem ggX7_scale_X7_scaleOf : GoodIn wsX7_scale wsX7_scaleOf := goodIn_r _ [10, 11, 12, 13, 14, 5, 15, 16, 17, 18, 19, 20, 21, 22, 23, 24, 25, 26, 27, 28, 29, 30, 31, 32, 33, 34, 35, 36, 37, 38, 39, 40, 41, 42, 43, 44, 45, 46, 47, 48, 49, 50, 51, 52] (by decide +kernel) (by decide +kernel)
set_option maxRecDepth 20000 in
theorem gX7_scale_X7_scaleOf : GoodIn wsX7_scale (wsV RX7 124 RX7 yX7_scaleOf wsX7_scaleOf) := goodIn_app (goodIn_of _ (by decide +kernel)) ggX7_scale_X7_scaleOf
theorem dX7_scale_0 : decode cX7_scale 0 = .ok (.iload_n 1, 1) := by decide +kernel
theorem dX7_scale_1 : decode cX7_scale 1 = .ok (.i2l, 1) := by decide +kernel
theorem dX7_scale_2 : decode cX7_scale 2 = .ok (.lconst 0, 1) := by decide +kernel
theorem dX7_scale_3 : decode cX7_scale 3 = .ok (.ldc2_w 48, 3) := by decide +kernel
theorem dX7_scale_6 : decode cX7_scale 6 = .ok (.invokestatic 69, 3) := by decide +kernel
theorem dX7_scale_9 : decode cX7_scale 9 = .ok (.ifCond .eq 12, 3) := by decide +kernel
theorem dX7_scale_12 : decode cX7_scale 12 = .ok (.aload_n 0, 1) := by decide +kernel
theorem dX7_scale_13 : decode cX7_scale 13 = .ok (.iload_n 1, 1) := by decide +kernel
theorem dX7_scale_14 : decode cX7_scale 14 = .ok (.invokevirtual 124, 3) := by decide +kernel
theorem dX7_scale_17 : decode cX7_scale 17 = .ok (.l2i, 1) := by decide +kernel
theorem dX7_scale_18 : decode cX7_scale 18 = .ok (.goto 5, 3) := by decide +kernel
theorem dX7_scale_21 : decode cX7_scale 21 = .ok (.ldc 89, 2) := by decide +kernel
theorem dX7_scale_23 : decode cX7_scale 23 = .ok (.ireturn, 1) := by decide +kernel
set_option maxRecDepth 20000 in
theorem ggX7_isZone_X7_in : GoodIn wsX7_isZone wsX7_in := goodIn_r _ [5] (by decide +kernel) (by decide +kernel)
set_option maxRecDepth 20000 in
theorem gX7_isZone_X7_in : GoodIn wsX7_isZone (va_wsS RX7 69 yX7_in wsX7_in) := goodIn_app (goodIn_of _ (by decide +kernel)) ggX7_isZone_X7_in
theorem dX7_isZone_0 : decode cX7_isZone 0 = .ok (.iload_n 0, 1) := by decide +kernel
theorem dX7_isZone_1 : decode cX7_isZone 1 = .ok (.i2l, 1) := by decide +kernel
theorem dX7_isZone_2 : decode cX7_isZone 2 = .ok (.lconst 0, 1) := by decide +kernel
theorem dX7_isZone_3 : decode cX7_isZone 3 = .ok (.ldc2_w 98, 3) := by decide +kernel
theorem dX7_isZone_6 : decode cX7_isZone 6 = .ok (.invokestatic 69, 3) := by decide +kernel
theorem dX7_isZone_9 : decode cX7_isZone 9 = .ok (.ireturn, 1) := by decide +kernel
theorem dX7_bands_0 : decode cX7_bands 0 = .ok (.aload_n 0, 1) := by decide +kernel
theorem dX7_bands_1 : decode cX7_bands 1 = .ok (.getfield 7, 3) := by decide +kernel
theorem dX7_bands_4 : decode cX7_bands 4 = .ok (.bipush 24, 2) := by decide +kernel
theorem dX7_bands_6 : decode cX7_bands 6 = .ok (.bipush 14, 2) := by decide +kernel
theorem dX7_bands_8 : decode cX7_bands 8 = .ok (.iload_n 1, 1) := by decide +kernel
theorem dX7_bands_9 : decode cX7_bands 9 = .ok (.imul, 1) := by decide +kernel
theorem dX7_bands_10 : decode cX7_bands 10 = .ok (.iadd, 1) := by decide +kernel
theorem dX7_bands_11 : decode cX7_bands 11 = .ok (.laload, 1) := by decide +kernel
theorem dX7_bands_12 : decode cX7_bands 12 = .ok (.l2i, 1) := by decide +kernel
theorem dX7_bands_13 : decode cX7_bands 13 = .ok (.ireturn, 1) := by decide +kernel
theorem dX7_placeOf_0 : decode cX7_placeOf 0 = .ok (.bipush 24, 2) := by decide +kernel
theorem dX7_placeOf_2 : decode cX7_placeOf 2 = .ok (.bipush 14, 2) := by decide +kernel
theorem dX7_placeOf_4 : decode cX7_placeOf 4 = .ok (.iload_n 0, 1) := by decide +kernel
theorem dX7_placeOf_5 : decode cX7_placeOf 5 = .ok (.imul, 1) := by decide +kernel
theorem dX7_placeOf_6 : decode cX7_placeOf 6 = .ok (.iadd, 1) := by decide +kernel
theorem dX7_placeOf_7 : decode cX7_placeOf 7 = .ok (.iconst 2, 1) := by decide +kernel
theorem dX7_placeOf_8 : decode cX7_placeOf 8 = .ok (.iadd, 1) := by decide +kernel
theorem dX7_placeOf_9 : decode cX7_placeOf 9 = .ok (.iconst 2, 1) := by decide +kernel
theorem dX7_placeOf_10 : decode cX7_placeOf 10 = .ok (.iload_n 1, 1) := by decide +kernel
theorem dX7_placeOf_11 : decode cX7_placeOf 11 = .ok (.imul, 1) := by decide +kernel
theorem dX7_placeOf_12 : decode cX7_placeOf 12 = .ok (.iadd, 1) := by decide +kernel
theorem dX7_placeOf_13 : decode cX7_placeOf 13 = .ok (.ireturn, 1) := by decide +kernel
set_option maxRecDepth 20000 in
theorem ggX7_band_X7_isZone : GoodIn wsX7_band wsX7_isZone := goodIn_r _ [8, 9, 10, 11, 7, 12] (by decide +kernel) (by decide +kernel)
set_option maxRecDepth 20000 in
theorem gX7_band_X7_isZone : GoodIn wsX7_band (va_wsS RX7 128 yX7_isZone wsX7_isZone) := goodIn_app (goodIn_of _ (by decide +kernel)) ggX7_band_X7_isZone
set_option maxRecDepth 20000 in
theorem ggX7_band_X7_in : GoodIn wsX7_band wsX7_in := goodIn_r _ [12] (by decide +kernel) (by decide +kernel)
set_option maxRecDepth 20000 in
theorem gX7_band_X7_in : GoodIn wsX7_band (va_wsS RX7 69 yX7_in wsX7_in) := goodIn_app (goodIn_of _ (by decide +kernel)) ggX7_band_X7_in
set_option maxRecDepth 20000 in
theorem ggX7_band_X7_bands : GoodIn wsX7_band wsX7_bands := goodIn_r _ [16, 3, 26, 27, 28, 29, 30, 31, 32, 33, 34, 35, 36, 37, 38, 39, 40, 41, 42, 43, 44] (by decide +kernel) (by decide +kernel)
set_option maxRecDepth 20000 in
theorem gX7_band_X7_bands : GoodIn wsX7_band (wsV RX7 132 RX7 yX7_bands wsX7_bands) := goodIn_app (goodIn_of _ (by decide +kernel)) ggX7_band_X7_bands
set_option maxRecDepth 20000 in
theorem ggX7_band_X7_placeOf : GoodIn wsX7_band wsX7_placeOf := goodIn_r _ [19] (by decide +kernel) (by decide +kernel)
set_option maxRecDepth 20000 in
theorem gX7_band_X7_placeOf : GoodIn wsX7_band (va_wsS RX7 136 yX7_placeOf wsX7_placeOf) := goodIn_app (goodIn_of _ (by decide +kernel)) ggX7_band_X7_placeOf
set_option maxRecDepth 20000 in
theorem ggX7_band_X7_act : GoodIn wsX7_band wsX7_act := goodIn_r _ [23, 24, 25, 3, 26, 27, 28, 29, 30, 31, 32, 33, 34, 35, 36, 37, 38, 39, 40, 41, 42, 43, 44] (by decide +kernel) (by decide +kernel)
set_option maxRecDepth 20000 in
theorem gX7_band_X7_act : GoodIn wsX7_band (wsV RX7 62 RX7 yX7_act wsX7_act) := goodIn_app (goodIn_of _ (by decide +kernel)) ggX7_band_X7_act
theorem dX7_band_0 : decode cX7_band 0 = .ok (.iload_n 1, 1) := by decide +kernel
theorem dX7_band_1 : decode cX7_band 1 = .ok (.invokestatic 128, 3) := by decide +kernel
theorem dX7_band_4 : decode cX7_band 4 = .ok (.ifCond .eq 27, 3) := by decide +kernel
theorem dX7_band_7 : decode cX7_band 7 = .ok (.iload_n 2, 1) := by decide +kernel
theorem dX7_band_8 : decode cX7_band 8 = .ok (.i2l, 1) := by decide +kernel
theorem dX7_band_9 : decode cX7_band 9 = .ok (.lconst 1, 1) := by decide +kernel
theorem dX7_band_10 : decode cX7_band 10 = .ok (.ldc2_w 92, 3) := by decide +kernel
theorem dX7_band_13 : decode cX7_band 13 = .ok (.invokestatic 69, 3) := by decide +kernel
theorem dX7_band_16 : decode cX7_band 16 = .ok (.ifCond .eq 15, 3) := by decide +kernel
theorem dX7_band_19 : decode cX7_band 19 = .ok (.iload_n 3, 1) := by decide +kernel
theorem dX7_band_20 : decode cX7_band 20 = .ok (.i2l, 1) := by decide +kernel
theorem dX7_band_21 : decode cX7_band 21 = .ok (.lconst 0, 1) := by decide +kernel
theorem dX7_band_22 : decode cX7_band 22 = .ok (.ldc2_w 92, 3) := by decide +kernel
theorem dX7_band_25 : decode cX7_band 25 = .ok (.invokestatic 69, 3) := by decide +kernel
theorem dX7_band_28 : decode cX7_band 28 = .ok (.ifCond .ne 6, 3) := by decide +kernel
theorem dX7_band_31 : decode cX7_band 31 = .ok (.ldc 89, 2) := by decide +kernel
theorem dX7_band_33 : decode cX7_band 33 = .ok (.ireturn, 1) := by decide +kernel
theorem dX7_band_34 : decode cX7_band 34 = .ok (.iconst 0, 1) := by decide +kernel
theorem dX7_band_35 : decode cX7_band 35 = .ok (.istore 4, 2) := by decide +kernel
theorem dX7_band_37 : decode cX7_band 37 = .ok (.iload 4, 2) := by decide +kernel
theorem dX7_band_39 : decode cX7_band 39 = .ok (.aload_n 0, 1) := by decide +kernel
theorem dX7_band_40 : decode cX7_band 40 = .ok (.iload_n 1, 1) := by decide +kernel
theorem dX7_band_41 : decode cX7_band 41 = .ok (.invokevirtual 132, 3) := by decide +kernel
theorem dX7_band_44 : decode cX7_band 44 = .ok (.if_icmp .ge 26, 3) := by decide +kernel
theorem dX7_band_47 : decode cX7_band 47 = .ok (.aload_n 0, 1) := by decide +kernel
theorem dX7_band_48 : decode cX7_band 48 = .ok (.getfield 7, 3) := by decide +kernel
theorem dX7_band_51 : decode cX7_band 51 = .ok (.iload_n 1, 1) := by decide +kernel
theorem dX7_band_52 : decode cX7_band 52 = .ok (.iload 4, 2) := by decide +kernel
theorem dX7_band_54 : decode cX7_band 54 = .ok (.invokestatic 136, 3) := by decide +kernel
theorem dX7_band_57 : decode cX7_band 57 = .ok (.laload, 1) := by decide +kernel
theorem dX7_band_58 : decode cX7_band 58 = .ok (.iload_n 2, 1) := by decide +kernel
theorem dX7_band_59 : decode cX7_band 59 = .ok (.i2l, 1) := by decide +kernel
theorem dX7_band_60 : decode cX7_band 60 = .ok (.lcmp, 1) := by decide +kernel
theorem dX7_band_61 : decode cX7_band 61 = .ok (.ifCond .ge 9, 3) := by decide +kernel
theorem dX7_band_64 : decode cX7_band 64 = .ok (.iinc 4 1, 3) := by decide +kernel
theorem dX7_band_67 : decode cX7_band 67 = .ok (.goto (-30), 3) := by decide +kernel
theorem dX7_band_70 : decode cX7_band 70 = .ok (.iload 4, 2) := by decide +kernel
theorem dX7_band_72 : decode cX7_band 72 = .ok (.aload_n 0, 1) := by decide +kernel
theorem dX7_band_73 : decode cX7_band 73 = .ok (.iload_n 1, 1) := by decide +kernel
theorem dX7_band_74 : decode cX7_band 74 = .ok (.invokevirtual 132, 3) := by decide +kernel
theorem dX7_band_77 : decode cX7_band 77 = .ok (.if_icmp .ge 24, 3) := by decide +kernel
theorem dX7_band_80 : decode cX7_band 80 = .ok (.aload_n 0, 1) := by decide +kernel
theorem dX7_band_81 : decode cX7_band 81 = .ok (.getfield 7, 3) := by decide +kernel
theorem dX7_band_84 : decode cX7_band 84 = .ok (.iload_n 1, 1) := by decide +kernel
theorem dX7_band_85 : decode cX7_band 85 = .ok (.iload 4, 2) := by decide +kernel
theorem dX7_band_87 : decode cX7_band 87 = .ok (.invokestatic 136, 3) := by decide +kernel
theorem dX7_band_90 : decode cX7_band 90 = .ok (.laload, 1) := by decide +kernel
theorem dX7_band_91 : decode cX7_band 91 = .ok (.iload_n 2, 1) := by decide +kernel
theorem dX7_band_92 : decode cX7_band 92 = .ok (.i2l, 1) := by decide +kernel
theorem dX7_band_93 : decode cX7_band 93 = .ok (.lcmp, 1) := by decide +kernel
theorem dX7_band_94 : decode cX7_band 94 = .ok (.ifCond .ne 7, 3) := by decide +kernel
theorem dX7_band_97 : decode cX7_band 97 = .ok (.iconst 1, 1) := by decide +kernel
theorem dX7_band_98 : decode cX7_band 98 = .ok (.goto 4, 3) := by decide +kernel
theorem dX7_band_101 : decode cX7_band 101 = .ok (.iconst 0, 1) := by decide +kernel
theorem dX7_band_102 : decode cX7_band 102 = .ok (.istore 5, 2) := by decide +kernel
theorem dX7_band_104 : decode cX7_band 104 = .ok (.iload 5, 2) := by decide +kernel
theorem dX7_band_106 : decode cX7_band 106 = .ok (.ifCond .ne 16, 3) := by decide +kernel
theorem dX7_band_109 : decode cX7_band 109 = .ok (.aload_n 0, 1) := by decide +kernel
theorem dX7_band_110 : decode cX7_band 110 = .ok (.iload_n 1, 1) := by decide +kernel
theorem dX7_band_111 : decode cX7_band 111 = .ok (.invokevirtual 132, 3) := by decide +kernel
theorem dX7_band_114 : decode cX7_band 114 = .ok (.bipush 6, 2) := by decide +kernel
theorem dX7_band_116 : decode cX7_band 116 = .ok (.if_icmp .ne 6, 3) := by decide +kernel
theorem dX7_band_119 : decode cX7_band 119 = .ok (.ldc 139, 2) := by decide +kernel
theorem dX7_band_121 : decode cX7_band 121 = .ok (.ireturn, 1) := by decide +kernel
theorem dX7_band_122 : decode cX7_band 122 = .ok (.aload_n 0, 1) := by decide +kernel
theorem dX7_band_123 : decode cX7_band 123 = .ok (.invokevirtual 62, 3) := by decide +kernel
theorem dX7_band_126 : decode cX7_band 126 = .ok (.iload 5, 2) := by decide +kernel
theorem dX7_band_128 : decode cX7_band 128 = .ok (.ifCond .ne 91, 3) := by decide +kernel
theorem dX7_band_131 : decode cX7_band 131 = .ok (.aload_n 0, 1) := by decide +kernel
theorem dX7_band_132 : decode cX7_band 132 = .ok (.iload_n 1, 1) := by decide +kernel
theorem dX7_band_133 : decode cX7_band 133 = .ok (.invokevirtual 132, 3) := by decide +kernel
theorem dX7_band_136 : decode cX7_band 136 = .ok (.istore 6, 2) := by decide +kernel
theorem dX7_band_138 : decode cX7_band 138 = .ok (.iload 6, 2) := by decide +kernel
theorem dX7_band_140 : decode cX7_band 140 = .ok (.iload 4, 2) := by decide +kernel
theorem dX7_band_142 : decode cX7_band 142 = .ok (.if_icmp .le 61, 3) := by decide +kernel
theorem dX7_band_145 : decode cX7_band 145 = .ok (.aload_n 0, 1) := by decide +kernel
theorem dX7_band_146 : decode cX7_band 146 = .ok (.getfield 7, 3) := by decide +kernel
theorem dX7_band_149 : decode cX7_band 149 = .ok (.iload_n 1, 1) := by decide +kernel
theorem dX7_band_150 : decode cX7_band 150 = .ok (.iload 6, 2) := by decide +kernel
theorem dX7_band_152 : decode cX7_band 152 = .ok (.invokestatic 136, 3) := by decide +kernel
theorem dX7_band_155 : decode cX7_band 155 = .ok (.aload_n 0, 1) := by decide +kernel
theorem dX7_band_156 : decode cX7_band 156 = .ok (.getfield 7, 3) := by decide +kernel
theorem dX7_band_159 : decode cX7_band 159 = .ok (.iload_n 1, 1) := by decide +kernel
theorem dX7_band_160 : decode cX7_band 160 = .ok (.iload 6, 2) := by decide +kernel
theorem dX7_band_162 : decode cX7_band 162 = .ok (.iconst 1, 1) := by decide +kernel
theorem dX7_band_163 : decode cX7_band 163 = .ok (.isub, 1) := by decide +kernel
theorem dX7_band_164 : decode cX7_band 164 = .ok (.invokestatic 136, 3) := by decide +kernel
theorem dX7_band_167 : decode cX7_band 167 = .ok (.laload, 1) := by decide +kernel
theorem dX7_band_168 : decode cX7_band 168 = .ok (.lastore, 1) := by decide +kernel
theorem dX7_band_169 : decode cX7_band 169 = .ok (.aload_n 0, 1) := by decide +kernel
theorem dX7_band_170 : decode cX7_band 170 = .ok (.getfield 7, 3) := by decide +kernel
theorem dX7_band_173 : decode cX7_band 173 = .ok (.iload_n 1, 1) := by decide +kernel
theorem dX7_band_174 : decode cX7_band 174 = .ok (.iload 6, 2) := by decide +kernel
theorem dX7_band_176 : decode cX7_band 176 = .ok (.invokestatic 136, 3) := by decide +kernel
theorem dX7_band_179 : decode cX7_band 179 = .ok (.iconst 1, 1) := by decide +kernel
theorem dX7_band_180 : decode cX7_band 180 = .ok (.iadd, 1) := by decide +kernel
theorem dX7_band_181 : decode cX7_band 181 = .ok (.aload_n 0, 1) := by decide +kernel
theorem dX7_band_182 : decode cX7_band 182 = .ok (.getfield 7, 3) := by decide +kernel
theorem dX7_band_185 : decode cX7_band 185 = .ok (.iload_n 1, 1) := by decide +kernel
theorem dX7_band_186 : decode cX7_band 186 = .ok (.iload 6, 2) := by decide +kernel
theorem dX7_band_188 : decode cX7_band 188 = .ok (.iconst 1, 1) := by decide +kernel
theorem dX7_band_189 : decode cX7_band 189 = .ok (.isub, 1) := by decide +kernel
theorem dX7_band_190 : decode cX7_band 190 = .ok (.invokestatic 136, 3) := by decide +kernel
theorem dX7_band_193 : decode cX7_band 193 = .ok (.iconst 1, 1) := by decide +kernel
theorem dX7_band_194 : decode cX7_band 194 = .ok (.iadd, 1) := by decide +kernel
theorem dX7_band_195 : decode cX7_band 195 = .ok (.laload, 1) := by decide +kernel
theorem dX7_band_196 : decode cX7_band 196 = .ok (.lastore, 1) := by decide +kernel
theorem dX7_band_197 : decode cX7_band 197 = .ok (.iinc 6 (-1), 3) := by decide +kernel
theorem dX7_band_200 : decode cX7_band 200 = .ok (.goto (-62), 3) := by decide +kernel
theorem dX7_band_203 : decode cX7_band 203 = .ok (.aload_n 0, 1) := by decide +kernel
theorem dX7_band_204 : decode cX7_band 204 = .ok (.getfield 7, 3) := by decide +kernel
theorem dX7_band_207 : decode cX7_band 207 = .ok (.bipush 24, 2) := by decide +kernel
theorem dX7_band_209 : decode cX7_band 209 = .ok (.bipush 14, 2) := by decide +kernel
theorem dX7_band_211 : decode cX7_band 211 = .ok (.iload_n 1, 1) := by decide +kernel
theorem dX7_band_212 : decode cX7_band 212 = .ok (.imul, 1) := by decide +kernel
theorem dX7_band_213 : decode cX7_band 213 = .ok (.iadd, 1) := by decide +kernel
theorem dX7_band_214 : decode cX7_band 214 = .ok (.dup2, 1) := by decide +kernel
theorem dX7_band_215 : decode cX7_band 215 = .ok (.laload, 1) := by decide +kernel
theorem dX7_band_216 : decode cX7_band 216 = .ok (.lconst 1, 1) := by decide +kernel
theorem dX7_band_217 : decode cX7_band 217 = .ok (.ladd, 1) := by decide +kernel
theorem dX7_band_218 : decode cX7_band 218 = .ok (.lastore, 1) := by decide +kernel
theorem dX7_band_219 : decode cX7_band 219 = .ok (.aload_n 0, 1) := by decide +kernel
theorem dX7_band_220 : decode cX7_band 220 = .ok (.getfield 7, 3) := by decide +kernel
theorem dX7_band_223 : decode cX7_band 223 = .ok (.iload_n 1, 1) := by decide +kernel
theorem dX7_band_224 : decode cX7_band 224 = .ok (.iload 4, 2) := by decide +kernel
theorem dX7_band_226 : decode cX7_band 226 = .ok (.invokestatic 136, 3) := by decide +kernel
theorem dX7_band_229 : decode cX7_band 229 = .ok (.iload_n 2, 1) := by decide +kernel
theorem dX7_band_230 : decode cX7_band 230 = .ok (.i2l, 1) := by decide +kernel
theorem dX7_band_231 : decode cX7_band 231 = .ok (.lastore, 1) := by decide +kernel
theorem dX7_band_232 : decode cX7_band 232 = .ok (.aload_n 0, 1) := by decide +kernel
theorem dX7_band_233 : decode cX7_band 233 = .ok (.getfield 7, 3) := by decide +kernel
theorem dX7_band_236 : decode cX7_band 236 = .ok (.iload_n 1, 1) := by decide +kernel
theorem dX7_band_237 : decode cX7_band 237 = .ok (.iload 4, 2) := by decide +kernel
theorem dX7_band_239 : decode cX7_band 239 = .ok (.invokestatic 136, 3) := by decide +kernel
theorem dX7_band_242 : decode cX7_band 242 = .ok (.iconst 1, 1) := by decide +kernel
theorem dX7_band_243 : decode cX7_band 243 = .ok (.iadd, 1) := by decide +kernel
theorem dX7_band_244 : decode cX7_band 244 = .ok (.iload_n 3, 1) := by decide +kernel
theorem dX7_band_245 : decode cX7_band 245 = .ok (.i2l, 1) := by decide +kernel
theorem dX7_band_246 : decode cX7_band 246 = .ok (.lastore, 1) := by decide +kernel
theorem dX7_band_247 : decode cX7_band 247 = .ok (.iload 4, 2) := by decide +kernel
theorem dX7_band_249 : decode cX7_band 249 = .ok (.ireturn, 1) := by decide +kernel
set_option maxRecDepth 20000 in
theorem ggX7_unband_X7_isZone : GoodIn wsX7_unband wsX7_isZone := goodIn_r _ [6, 7, 8, 9, 5, 10] (by decide +kernel) (by decide +kernel)
set_option maxRecDepth 20000 in
theorem gX7_unband_X7_isZone : GoodIn wsX7_unband (va_wsS RX7 128 yX7_isZone wsX7_isZone) := goodIn_app (goodIn_of _ (by decide +kernel)) ggX7_unband_X7_isZone
set_option maxRecDepth 20000 in
theorem ggX7_unband_X7_bands : GoodIn wsX7_unband wsX7_bands := goodIn_r _ [14, 2, 24, 25, 26, 27, 28, 29, 30, 31, 32, 33, 34, 35, 36, 37, 38, 39, 40, 41, 42] (by decide +kernel) (by decide +kernel)
set_option maxRecDepth 20000 in
theorem gX7_unband_X7_bands : GoodIn wsX7_unband (wsV RX7 132 RX7 yX7_bands wsX7_bands) := goodIn_app (goodIn_of _ (by decide +kernel)) ggX7_unband_X7_bands
set_option maxRecDepth 20000 in
theorem ggX7_unband_X7_in : GoodIn wsX7_unband wsX7_in := goodIn_r _ [10] (by decide +kernel) (by decide +kernel)
set_option maxRecDepth 20000 in
theorem gX7_unband_X7_in : GoodIn wsX7_unband (va_wsS RX7 69 yX7_in wsX7_in) := goodIn_app (goodIn_of _ (by decide +kernel)) ggX7_unband_X7_in
set_option maxRecDepth 20000 in
theorem ggX7_unband_X7_act : GoodIn wsX7_unband wsX7_act := goodIn_r _ [18, 19, 20, 2, 24, 25, 26, 27, 28, 29, 30, 31, 32, 33, 34, 35, 36, 37, 38, 39, 40, 41, 42] (by decide +kernel) (by decide +kernel)
set_option maxRecDepth 20000 in
theorem gX7_unband_X7_act : GoodIn wsX7_unband (wsV RX7 62 RX7 yX7_act wsX7_act) := goodIn_app (goodIn_of _ (by decide +kernel)) ggX7_unband_X7_act
set_option maxRecDepth 20000 in
theorem ggX7_unband_X7_placeOf : GoodIn wsX7_unband wsX7_placeOf := goodIn_r _ [23] (by decide +kernel) (by decide +kernel)
set_option maxRecDepth 20000 in
theorem gX7_unband_X7_placeOf : GoodIn wsX7_unband (va_wsS RX7 136 yX7_placeOf wsX7_placeOf) := goodIn_app (goodIn_of _ (by decide +kernel)) ggX7_unband_X7_placeOf
theorem dX7_unband_0 : decode cX7_unband 0 = .ok (.iload_n 1, 1) := by decide +kernel
theorem dX7_unband_1 : decode cX7_unband 1 = .ok (.invokestatic 128, 3) := by decide +kernel
theorem dX7_unband_4 : decode cX7_unband 4 = .ok (.ifCond .eq 20, 3) := by decide +kernel
theorem dX7_unband_7 : decode cX7_unband 7 = .ok (.iload_n 2, 1) := by decide +kernel
theorem dX7_unband_8 : decode cX7_unband 8 = .ok (.i2l, 1) := by decide +kernel
theorem dX7_unband_9 : decode cX7_unband 9 = .ok (.lconst 0, 1) := by decide +kernel
theorem dX7_unband_10 : decode cX7_unband 10 = .ok (.aload_n 0, 1) := by decide +kernel
theorem dX7_unband_11 : decode cX7_unband 11 = .ok (.iload_n 1, 1) := by decide +kernel
theorem dX7_unband_12 : decode cX7_unband 12 = .ok (.invokevirtual 132, 3) := by decide +kernel
theorem dX7_unband_15 : decode cX7_unband 15 = .ok (.iconst 1, 1) := by decide +kernel
theorem dX7_unband_16 : decode cX7_unband 16 = .ok (.isub, 1) := by decide +kernel
theorem dX7_unband_17 : decode cX7_unband 17 = .ok (.i2l, 1) := by decide +kernel
theorem dX7_unband_18 : decode cX7_unband 18 = .ok (.invokestatic 69, 3) := by decide +kernel
theorem dX7_unband_21 : decode cX7_unband 21 = .ok (.ifCond .ne 6, 3) := by decide +kernel
theorem dX7_unband_24 : decode cX7_unband 24 = .ok (.ldc 89, 2) := by decide +kernel
theorem dX7_unband_26 : decode cX7_unband 26 = .ok (.ireturn, 1) := by decide +kernel
theorem dX7_unband_27 : decode cX7_unband 27 = .ok (.aload_n 0, 1) := by decide +kernel
theorem dX7_unband_28 : decode cX7_unband 28 = .ok (.invokevirtual 62, 3) := by decide +kernel
theorem dX7_unband_31 : decode cX7_unband 31 = .ok (.aload_n 0, 1) := by decide +kernel
theorem dX7_unband_32 : decode cX7_unband 32 = .ok (.getfield 7, 3) := by decide +kernel
theorem dX7_unband_35 : decode cX7_unband 35 = .ok (.bipush 24, 2) := by decide +kernel
theorem dX7_unband_37 : decode cX7_unband 37 = .ok (.bipush 14, 2) := by decide +kernel
theorem dX7_unband_39 : decode cX7_unband 39 = .ok (.iload_n 1, 1) := by decide +kernel
theorem dX7_unband_40 : decode cX7_unband 40 = .ok (.imul, 1) := by decide +kernel
theorem dX7_unband_41 : decode cX7_unband 41 = .ok (.iadd, 1) := by decide +kernel
theorem dX7_unband_42 : decode cX7_unband 42 = .ok (.dup2, 1) := by decide +kernel
theorem dX7_unband_43 : decode cX7_unband 43 = .ok (.laload, 1) := by decide +kernel
theorem dX7_unband_44 : decode cX7_unband 44 = .ok (.lconst 1, 1) := by decide +kernel
theorem dX7_unband_45 : decode cX7_unband 45 = .ok (.lsub, 1) := by decide +kernel
theorem dX7_unband_46 : decode cX7_unband 46 = .ok (.lastore, 1) := by decide +kernel
theorem dX7_unband_47 : decode cX7_unband 47 = .ok (.iload_n 2, 1) := by decide +kernel
theorem dX7_unband_48 : decode cX7_unband 48 = .ok (.istore_n 3, 1) := by decide +kernel
theorem dX7_unband_49 : decode cX7_unband 49 = .ok (.iload_n 3, 1) := by decide +kernel
theorem dX7_unband_50 : decode cX7_unband 50 = .ok (.aload_n 0, 1) := by decide +kernel
theorem dX7_unband_51 : decode cX7_unband 51 = .ok (.iload_n 1, 1) := by decide +kernel
theorem dX7_unband_52 : decode cX7_unband 52 = .ok (.invokevirtual 132, 3) := by decide +kernel
theorem dX7_unband_55 : decode cX7_unband 55 = .ok (.if_icmp .ge 57, 3) := by decide +kernel
theorem dX7_unband_58 : decode cX7_unband 58 = .ok (.aload_n 0, 1) := by decide +kernel
theorem dX7_unband_59 : decode cX7_unband 59 = .ok (.getfield 7, 3) := by decide +kernel
theorem dX7_unband_62 : decode cX7_unband 62 = .ok (.iload_n 1, 1) := by decide +kernel
theorem dX7_unband_63 : decode cX7_unband 63 = .ok (.iload_n 3, 1) := by decide +kernel
theorem dX7_unband_64 : decode cX7_unband 64 = .ok (.invokestatic 136, 3) := by decide +kernel
theorem dX7_unband_67 : decode cX7_unband 67 = .ok (.aload_n 0, 1) := by decide +kernel
theorem dX7_unband_68 : decode cX7_unband 68 = .ok (.getfield 7, 3) := by decide +kernel
theorem dX7_unband_71 : decode cX7_unband 71 = .ok (.iload_n 1, 1) := by decide +kernel
theorem dX7_unband_72 : decode cX7_unband 72 = .ok (.iload_n 3, 1) := by decide +kernel
theorem dX7_unband_73 : decode cX7_unband 73 = .ok (.iconst 1, 1) := by decide +kernel
theorem dX7_unband_74 : decode cX7_unband 74 = .ok (.iadd, 1) := by decide +kernel
theorem dX7_unband_75 : decode cX7_unband 75 = .ok (.invokestatic 136, 3) := by decide +kernel
theorem dX7_unband_78 : decode cX7_unband 78 = .ok (.laload, 1) := by decide +kernel
theorem dX7_unband_79 : decode cX7_unband 79 = .ok (.lastore, 1) := by decide +kernel
theorem dX7_unband_80 : decode cX7_unband 80 = .ok (.aload_n 0, 1) := by decide +kernel
theorem dX7_unband_81 : decode cX7_unband 81 = .ok (.getfield 7, 3) := by decide +kernel
theorem dX7_unband_84 : decode cX7_unband 84 = .ok (.iload_n 1, 1) := by decide +kernel
theorem dX7_unband_85 : decode cX7_unband 85 = .ok (.iload_n 3, 1) := by decide +kernel
theorem dX7_unband_86 : decode cX7_unband 86 = .ok (.invokestatic 136, 3) := by decide +kernel
theorem dX7_unband_89 : decode cX7_unband 89 = .ok (.iconst 1, 1) := by decide +kernel
theorem dX7_unband_90 : decode cX7_unband 90 = .ok (.iadd, 1) := by decide +kernel
theorem dX7_unband_91 : decode cX7_unband 91 = .ok (.aload_n 0, 1) := by decide +kernel
theorem dX7_unband_92 : decode cX7_unband 92 = .ok (.getfield 7, 3) := by decide +kernel
theorem dX7_unband_95 : decode cX7_unband 95 = .ok (.iload_n 1, 1) := by decide +kernel
theorem dX7_unband_96 : decode cX7_unband 96 = .ok (.iload_n 3, 1) := by decide +kernel
theorem dX7_unband_97 : decode cX7_unband 97 = .ok (.iconst 1, 1) := by decide +kernel
theorem dX7_unband_98 : decode cX7_unband 98 = .ok (.iadd, 1) := by decide +kernel
theorem dX7_unband_99 : decode cX7_unband 99 = .ok (.invokestatic 136, 3) := by decide +kernel
theorem dX7_unband_102 : decode cX7_unband 102 = .ok (.iconst 1, 1) := by decide +kernel
theorem dX7_unband_103 : decode cX7_unband 103 = .ok (.iadd, 1) := by decide +kernel
theorem dX7_unband_104 : decode cX7_unband 104 = .ok (.laload, 1) := by decide +kernel
theorem dX7_unband_105 : decode cX7_unband 105 = .ok (.lastore, 1) := by decide +kernel
theorem dX7_unband_106 : decode cX7_unband 106 = .ok (.iinc 3 1, 3) := by decide +kernel
theorem dX7_unband_109 : decode cX7_unband 109 = .ok (.goto (-60), 3) := by decide +kernel
theorem dX7_unband_112 : decode cX7_unband 112 = .ok (.aload_n 0, 1) := by decide +kernel
theorem dX7_unband_113 : decode cX7_unband 113 = .ok (.iload_n 1, 1) := by decide +kernel
theorem dX7_unband_114 : decode cX7_unband 114 = .ok (.invokevirtual 132, 3) := by decide +kernel
theorem dX7_unband_117 : decode cX7_unband 117 = .ok (.ireturn, 1) := by decide +kernel
set_option maxRecDepth 20000 in
theorem ggX7_bandAt_X7_isZone : GoodIn wsX7_bandAt wsX7_isZone := goodIn_r _ [6, 7, 8, 9, 5, 10] (by decide +kernel) (by decide +kernel)
set_option maxRecDepth 20000 in
theorem gX7_bandAt_X7_isZone : GoodIn wsX7_bandAt (va_wsS RX7 128 yX7_isZone wsX7_isZone) := goodIn_app (goodIn_of _ (by decide +kernel)) ggX7_bandAt_X7_isZone
set_option maxRecDepth 20000 in
theorem ggX7_bandAt_X7_bands : GoodIn wsX7_bandAt wsX7_bands := goodIn_r _ [14, 1, 18, 19, 20, 21, 22, 23, 24, 25, 26, 27, 28, 29, 30, 31, 32, 33, 34, 35, 36] (by decide +kernel) (by decide +kernel)
set_option maxRecDepth 20000 in
theorem gX7_bandAt_X7_bands : GoodIn wsX7_bandAt (wsV RX7 132 RX7 yX7_bands wsX7_bands) := goodIn_app (goodIn_of _ (by decide +kernel)) ggX7_bandAt_X7_bands
set_option maxRecDepth 20000 in
theorem ggX7_bandAt_X7_in : GoodIn wsX7_bandAt wsX7_in := goodIn_r _ [10] (by decide +kernel) (by decide +kernel)
set_option maxRecDepth 20000 in
theorem gX7_bandAt_X7_in : GoodIn wsX7_bandAt (va_wsS RX7 69 yX7_in wsX7_in) := goodIn_app (goodIn_of _ (by decide +kernel)) ggX7_bandAt_X7_in
set_option maxRecDepth 20000 in
theorem ggX7_bandAt_X7_placeOf : GoodIn wsX7_bandAt wsX7_placeOf := goodIn_r _ [17] (by decide +kernel) (by decide +kernel)
set_option maxRecDepth 20000 in
theorem gX7_bandAt_X7_placeOf : GoodIn wsX7_bandAt (va_wsS RX7 136 yX7_placeOf wsX7_placeOf) := goodIn_app (goodIn_of _ (by decide +kernel)) ggX7_bandAt_X7_placeOf
theorem dX7_bandAt_0 : decode cX7_bandAt 0 = .ok (.iload_n 1, 1) := by decide +kernel
theorem dX7_bandAt_1 : decode cX7_bandAt 1 = .ok (.invokestatic 128, 3) := by decide +kernel
theorem dX7_bandAt_4 : decode cX7_bandAt 4 = .ok (.ifCond .eq 46, 3) := by decide +kernel
theorem dX7_bandAt_7 : decode cX7_bandAt 7 = .ok (.iload_n 2, 1) := by decide +kernel
theorem dX7_bandAt_8 : decode cX7_bandAt 8 = .ok (.i2l, 1) := by decide +kernel
theorem dX7_bandAt_9 : decode cX7_bandAt 9 = .ok (.lconst 0, 1) := by decide +kernel
theorem dX7_bandAt_10 : decode cX7_bandAt 10 = .ok (.aload_n 0, 1) := by decide +kernel
theorem dX7_bandAt_11 : decode cX7_bandAt 11 = .ok (.iload_n 1, 1) := by decide +kernel
theorem dX7_bandAt_12 : decode cX7_bandAt 12 = .ok (.invokevirtual 132, 3) := by decide +kernel
theorem dX7_bandAt_15 : decode cX7_bandAt 15 = .ok (.iconst 1, 1) := by decide +kernel
theorem dX7_bandAt_16 : decode cX7_bandAt 16 = .ok (.isub, 1) := by decide +kernel
theorem dX7_bandAt_17 : decode cX7_bandAt 17 = .ok (.i2l, 1) := by decide +kernel
theorem dX7_bandAt_18 : decode cX7_bandAt 18 = .ok (.invokestatic 69, 3) := by decide +kernel
theorem dX7_bandAt_21 : decode cX7_bandAt 21 = .ok (.ifCond .eq 29, 3) := by decide +kernel
theorem dX7_bandAt_24 : decode cX7_bandAt 24 = .ok (.iload_n 3, 1) := by decide +kernel
theorem dX7_bandAt_25 : decode cX7_bandAt 25 = .ok (.i2l, 1) := by decide +kernel
theorem dX7_bandAt_26 : decode cX7_bandAt 26 = .ok (.lconst 0, 1) := by decide +kernel
theorem dX7_bandAt_27 : decode cX7_bandAt 27 = .ok (.lconst 1, 1) := by decide +kernel
theorem dX7_bandAt_28 : decode cX7_bandAt 28 = .ok (.invokestatic 69, 3) := by decide +kernel
theorem dX7_bandAt_31 : decode cX7_bandAt 31 = .ok (.ifCond .eq 19, 3) := by decide +kernel
theorem dX7_bandAt_34 : decode cX7_bandAt 34 = .ok (.aload_n 0, 1) := by decide +kernel
theorem dX7_bandAt_35 : decode cX7_bandAt 35 = .ok (.getfield 7, 3) := by decide +kernel
theorem dX7_bandAt_38 : decode cX7_bandAt 38 = .ok (.iload_n 1, 1) := by decide +kernel
theorem dX7_bandAt_39 : decode cX7_bandAt 39 = .ok (.iload_n 2, 1) := by decide +kernel
theorem dX7_bandAt_40 : decode cX7_bandAt 40 = .ok (.invokestatic 136, 3) := by decide +kernel
theorem dX7_bandAt_43 : decode cX7_bandAt 43 = .ok (.iload_n 3, 1) := by decide +kernel
theorem dX7_bandAt_44 : decode cX7_bandAt 44 = .ok (.iadd, 1) := by decide +kernel
theorem dX7_bandAt_45 : decode cX7_bandAt 45 = .ok (.laload, 1) := by decide +kernel
theorem dX7_bandAt_46 : decode cX7_bandAt 46 = .ok (.l2i, 1) := by decide +kernel
theorem dX7_bandAt_47 : decode cX7_bandAt 47 = .ok (.goto 5, 3) := by decide +kernel
theorem dX7_bandAt_50 : decode cX7_bandAt 50 = .ok (.ldc 89, 2) := by decide +kernel
theorem dX7_bandAt_52 : decode cX7_bandAt 52 = .ok (.ireturn, 1) := by decide +kernel
set_option maxRecDepth 20000 in
theorem ggX7_setExtra_X7_isZone : GoodIn wsX7_setExtra wsX7_isZone := goodIn_r _ [6, 7, 8, 9, 5, 10] (by decide +kernel) (by decide +kernel)
set_option maxRecDepth 20000 in
theorem gX7_setExtra_X7_isZone : GoodIn wsX7_setExtra (va_wsS RX7 128 yX7_isZone wsX7_isZone) := goodIn_app (goodIn_of _ (by decide +kernel)) ggX7_setExtra_X7_isZone
set_option maxRecDepth 20000 in
theorem ggX7_setExtra_X7_in : GoodIn wsX7_setExtra wsX7_in := goodIn_r _ [10] (by decide +kernel) (by decide +kernel)
set_option maxRecDepth 20000 in
theorem gX7_setExtra_X7_in : GoodIn wsX7_setExtra (va_wsS RX7 69 yX7_in wsX7_in) := goodIn_app (goodIn_of _ (by decide +kernel)) ggX7_setExtra_X7_in
set_option maxRecDepth 20000 in
theorem ggX7_setExtra_X7_sets : GoodIn wsX7_setExtra wsX7_sets := goodIn_r _ [14, 15, 16, 17, 18, 5, 19, 20, 21, 22, 23, 24, 25, 26, 27, 28, 29, 30, 31, 32, 33, 34, 35, 36, 37, 38, 39, 40] (by decide +kernel) (by decide +kernel)
set_option maxRecDepth 20000 in
theorem gX7_setExtra_X7_sets : GoodIn wsX7_setExtra (wsV RX7 85 RX7 yX7_sets wsX7_sets) := goodIn_app (goodIn_of _ (by decide +kernel)) ggX7_setExtra_X7_sets
theorem dX7_setExtra_0 : decode cX7_setExtra 0 = .ok (.iload_n 1, 1) := by decide +kernel
theorem dX7_setExtra_1 : decode cX7_setExtra 1 = .ok (.invokestatic 128, 3) := by decide +kernel
theorem dX7_setExtra_4 : decode cX7_setExtra 4 = .ok (.ifCond .eq 32, 3) := by decide +kernel
theorem dX7_setExtra_7 : decode cX7_setExtra 7 = .ok (.iload_n 2, 1) := by decide +kernel
theorem dX7_setExtra_8 : decode cX7_setExtra 8 = .ok (.i2l, 1) := by decide +kernel
theorem dX7_setExtra_9 : decode cX7_setExtra 9 = .ok (.lconst 0, 1) := by decide +kernel
theorem dX7_setExtra_10 : decode cX7_setExtra 10 = .ok (.ldc2_w 140, 3) := by decide +kernel
theorem dX7_setExtra_13 : decode cX7_setExtra 13 = .ok (.invokestatic 69, 3) := by decide +kernel
theorem dX7_setExtra_16 : decode cX7_setExtra 16 = .ok (.ifCond .eq 20, 3) := by decide +kernel
theorem dX7_setExtra_19 : decode cX7_setExtra 19 = .ok (.aload_n 0, 1) := by decide +kernel
theorem dX7_setExtra_20 : decode cX7_setExtra 20 = .ok (.bipush 24, 2) := by decide +kernel
theorem dX7_setExtra_22 : decode cX7_setExtra 22 = .ok (.bipush 14, 2) := by decide +kernel
theorem dX7_setExtra_24 : decode cX7_setExtra 24 = .ok (.iload_n 1, 1) := by decide +kernel
theorem dX7_setExtra_25 : decode cX7_setExtra 25 = .ok (.imul, 1) := by decide +kernel
theorem dX7_setExtra_26 : decode cX7_setExtra 26 = .ok (.iadd, 1) := by decide +kernel
theorem dX7_setExtra_27 : decode cX7_setExtra 27 = .ok (.iconst 1, 1) := by decide +kernel
theorem dX7_setExtra_28 : decode cX7_setExtra 28 = .ok (.iadd, 1) := by decide +kernel
theorem dX7_setExtra_29 : decode cX7_setExtra 29 = .ok (.iload_n 2, 1) := by decide +kernel
theorem dX7_setExtra_30 : decode cX7_setExtra 30 = .ok (.invokevirtual 85, 3) := by decide +kernel
theorem dX7_setExtra_33 : decode cX7_setExtra 33 = .ok (.goto 5, 3) := by decide +kernel
theorem dX7_setExtra_36 : decode cX7_setExtra 36 = .ok (.ldc 89, 2) := by decide +kernel
theorem dX7_setExtra_38 : decode cX7_setExtra 38 = .ok (.ireturn, 1) := by decide +kernel
set_option maxRecDepth 20000 in
theorem ggX7_type_X7_in : GoodIn wsX7_type wsX7_in := goodIn_r _ [10] (by decide +kernel) (by decide +kernel)
set_option maxRecDepth 20000 in
theorem gX7_type_X7_in : GoodIn wsX7_type (va_wsS RX7 69 yX7_in wsX7_in) := goodIn_app (goodIn_of _ (by decide +kernel)) ggX7_type_X7_in
theorem dX7_type_0 : decode cX7_type 0 = .ok (.iload_n 1, 1) := by decide +kernel
theorem dX7_type_1 : decode cX7_type 1 = .ok (.i2l, 1) := by decide +kernel
theorem dX7_type_2 : decode cX7_type 2 = .ok (.ldc2_w 142, 3) := by decide +kernel
theorem dX7_type_5 : decode cX7_type 5 = .ok (.ldc2_w 144, 3) := by decide +kernel
theorem dX7_type_8 : decode cX7_type 8 = .ok (.invokestatic 69, 3) := by decide +kernel
theorem dX7_type_11 : decode cX7_type 11 = .ok (.ifCond .ne 6, 3) := by decide +kernel
theorem dX7_type_14 : decode cX7_type 14 = .ok (.ldc 89, 2) := by decide +kernel
theorem dX7_type_16 : decode cX7_type 16 = .ok (.ireturn, 1) := by decide +kernel
theorem dX7_type_17 : decode cX7_type 17 = .ok (.aload_n 0, 1) := by decide +kernel
theorem dX7_type_18 : decode cX7_type 18 = .ok (.getfield 146, 3) := by decide +kernel
theorem dX7_type_21 : decode cX7_type 21 = .ok (.bipush 60, 2) := by decide +kernel
theorem dX7_type_23 : decode cX7_type 23 = .ok (.if_icmp .ne 6, 3) := by decide +kernel
theorem dX7_type_26 : decode cX7_type 26 = .ok (.ldc 139, 2) := by decide +kernel
theorem dX7_type_28 : decode cX7_type 28 = .ok (.ireturn, 1) := by decide +kernel
theorem dX7_type_29 : decode cX7_type 29 = .ok (.aload_n 0, 1) := by decide +kernel
theorem dX7_type_30 : decode cX7_type 30 = .ok (.getfield 16, 3) := by decide +kernel
theorem dX7_type_33 : decode cX7_type 33 = .ok (.aload_n 0, 1) := by decide +kernel
theorem dX7_type_34 : decode cX7_type 34 = .ok (.getfield 146, 3) := by decide +kernel
theorem dX7_type_37 : decode cX7_type 37 = .ok (.iload_n 1, 1) := by decide +kernel
theorem dX7_type_38 : decode cX7_type 38 = .ok (.iastore, 1) := by decide +kernel
theorem dX7_type_39 : decode cX7_type 39 = .ok (.aload_n 0, 1) := by decide +kernel
theorem dX7_type_40 : decode cX7_type 40 = .ok (.dup, 1) := by decide +kernel
theorem dX7_type_41 : decode cX7_type 41 = .ok (.getfield 146, 3) := by decide +kernel
theorem dX7_type_44 : decode cX7_type 44 = .ok (.iconst 1, 1) := by decide +kernel
theorem dX7_type_45 : decode cX7_type 45 = .ok (.iadd, 1) := by decide +kernel
theorem dX7_type_46 : decode cX7_type 46 = .ok (.putfield 146, 3) := by decide +kernel
theorem dX7_type_49 : decode cX7_type 49 = .ok (.aload_n 0, 1) := by decide +kernel
theorem dX7_type_50 : decode cX7_type 50 = .ok (.getfield 146, 3) := by decide +kernel
theorem dX7_type_53 : decode cX7_type 53 = .ok (.ireturn, 1) := by decide +kernel
theorem dX7_clear_0 : decode cX7_clear 0 = .ok (.aload_n 0, 1) := by decide +kernel
theorem dX7_clear_1 : decode cX7_clear 1 = .ok (.getfield 146, 3) := by decide +kernel
theorem dX7_clear_4 : decode cX7_clear 4 = .ok (.istore_n 1, 1) := by decide +kernel
theorem dX7_clear_5 : decode cX7_clear 5 = .ok (.aload_n 0, 1) := by decide +kernel
theorem dX7_clear_6 : decode cX7_clear 6 = .ok (.iconst 0, 1) := by decide +kernel
theorem dX7_clear_7 : decode cX7_clear 7 = .ok (.putfield 146, 3) := by decide +kernel
theorem dX7_clear_10 : decode cX7_clear 10 = .ok (.iload_n 1, 1) := by decide +kernel
theorem dX7_clear_11 : decode cX7_clear 11 = .ok (.ireturn, 1) := by decide +kernel
theorem dX7_sign_0 : decode cX7_sign 0 = .ok (.aload_n 0, 1) := by decide +kernel
theorem dX7_sign_1 : decode cX7_sign 1 = .ok (.getfield 149, 3) := by decide +kernel
theorem dX7_sign_4 : decode cX7_sign 4 = .ok (.aload_n 0, 1) := by decide +kernel
theorem dX7_sign_5 : decode cX7_sign 5 = .ok (.getfield 152, 3) := by decide +kernel
theorem dX7_sign_8 : decode cX7_sign 8 = .ok (.if_icmp .ge 15, 3) := by decide +kernel
theorem dX7_sign_11 : decode cX7_sign 11 = .ok (.aload_n 0, 1) := by decide +kernel
theorem dX7_sign_12 : decode cX7_sign 12 = .ok (.getfield 20, 3) := by decide +kernel
theorem dX7_sign_15 : decode cX7_sign 15 = .ok (.aload_n 0, 1) := by decide +kernel
theorem dX7_sign_16 : decode cX7_sign 16 = .ok (.getfield 149, 3) := by decide +kernel
theorem dX7_sign_19 : decode cX7_sign 19 = .ok (.iaload, 1) := by decide +kernel
theorem dX7_sign_20 : decode cX7_sign 20 = .ok (.goto 4, 3) := by decide +kernel
theorem dX7_sign_23 : decode cX7_sign 23 = .ok (.iconst (-1), 1) := by decide +kernel
theorem dX7_sign_24 : decode cX7_sign 24 = .ok (.ireturn, 1) := by decide +kernel
theorem dX7_puts_0 : decode cX7_puts 0 = .ok (.sipush 200, 3) := by decide +kernel
theorem dX7_puts_3 : decode cX7_puts 3 = .ok (.aload_n 0, 1) := by decide +kernel
theorem dX7_puts_4 : decode cX7_puts 4 = .ok (.getfield 155, 3) := by decide +kernel
theorem dX7_puts_7 : decode cX7_puts 7 = .ok (.imul, 1) := by decide +kernel
theorem dX7_puts_8 : decode cX7_puts 8 = .ok (.iconst 3, 1) := by decide +kernel
theorem dX7_puts_9 : decode cX7_puts 9 = .ok (.aload_n 0, 1) := by decide +kernel
theorem dX7_puts_10 : decode cX7_puts 10 = .ok (.getfield 26, 3) := by decide +kernel
theorem dX7_puts_13 : decode cX7_puts 13 = .ok (.aload_n 0, 1) := by decide +kernel
theorem dX7_puts_14 : decode cX7_puts 14 = .ok (.getfield 155, 3) := by decide +kernel
theorem dX7_puts_17 : decode cX7_puts 17 = .ok (.iaload, 1) := by decide +kernel
theorem dX7_puts_18 : decode cX7_puts 18 = .ok (.imul, 1) := by decide +kernel
theorem dX7_puts_19 : decode cX7_puts 19 = .ok (.iadd, 1) := by decide +kernel
theorem dX7_puts_20 : decode cX7_puts 20 = .ok (.istore 4, 2) := by decide +kernel
theorem dX7_puts_22 : decode cX7_puts 22 = .ok (.aload_n 0, 1) := by decide +kernel
theorem dX7_puts_23 : decode cX7_puts 23 = .ok (.getfield 23, 3) := by decide +kernel
theorem dX7_puts_26 : decode cX7_puts 26 = .ok (.iload 4, 2) := by decide +kernel
theorem dX7_puts_28 : decode cX7_puts 28 = .ok (.iload_n 1, 1) := by decide +kernel
theorem dX7_puts_29 : decode cX7_puts 29 = .ok (.iastore, 1) := by decide +kernel
theorem dX7_puts_30 : decode cX7_puts 30 = .ok (.aload_n 0, 1) := by decide +kernel
theorem dX7_puts_31 : decode cX7_puts 31 = .ok (.getfield 23, 3) := by decide +kernel
theorem dX7_puts_34 : decode cX7_puts 34 = .ok (.iload 4, 2) := by decide +kernel
theorem dX7_puts_36 : decode cX7_puts 36 = .ok (.iconst 1, 1) := by decide +kernel
theorem dX7_puts_37 : decode cX7_puts 37 = .ok (.iadd, 1) := by decide +kernel
theorem dX7_puts_38 : decode cX7_puts 38 = .ok (.iload_n 2, 1) := by decide +kernel
theorem dX7_puts_39 : decode cX7_puts 39 = .ok (.iastore, 1) := by decide +kernel
theorem dX7_puts_40 : decode cX7_puts 40 = .ok (.aload_n 0, 1) := by decide +kernel
theorem dX7_puts_41 : decode cX7_puts 41 = .ok (.getfield 23, 3) := by decide +kernel
theorem dX7_puts_44 : decode cX7_puts 44 = .ok (.iload 4, 2) := by decide +kernel
theorem dX7_puts_46 : decode cX7_puts 46 = .ok (.iconst 2, 1) := by decide +kernel
theorem dX7_puts_47 : decode cX7_puts 47 = .ok (.iadd, 1) := by decide +kernel
theorem dX7_puts_48 : decode cX7_puts 48 = .ok (.iload_n 3, 1) := by decide +kernel
theorem dX7_puts_49 : decode cX7_puts 49 = .ok (.iastore, 1) := by decide +kernel
theorem dX7_puts_50 : decode cX7_puts 50 = .ok (.aload_n 0, 1) := by decide +kernel
theorem dX7_puts_51 : decode cX7_puts 51 = .ok (.getfield 26, 3) := by decide +kernel
theorem dX7_puts_54 : decode cX7_puts 54 = .ok (.aload_n 0, 1) := by decide +kernel
theorem dX7_puts_55 : decode cX7_puts 55 = .ok (.getfield 155, 3) := by decide +kernel
theorem dX7_puts_58 : decode cX7_puts 58 = .ok (.dup2, 1) := by decide +kernel
theorem dX7_puts_59 : decode cX7_puts 59 = .ok (.iaload, 1) := by decide +kernel
theorem dX7_puts_60 : decode cX7_puts 60 = .ok (.iconst 1, 1) := by decide +kernel
theorem dX7_puts_61 : decode cX7_puts 61 = .ok (.iadd, 1) := by decide +kernel
theorem dX7_puts_62 : decode cX7_puts 62 = .ok (.iastore, 1) := by decide +kernel
theorem dX7_puts_63 : decode cX7_puts 63 = .ok (.return_, 1) := by decide +kernel
set_option maxRecDepth 20000 in
theorem ggX7_number_X7_sign : GoodIn wsX7_number wsX7_sign := goodIn_r _ [8, 3, 9, 10, 14, 15, 16, 17, 18, 19, 20, 21, 22, 23, 24, 25, 26, 27, 28, 29, 30, 31, 32] (by decide +kernel) (by decide +kernel)
set_option maxRecDepth 20000 in
theorem gX7_number_X7_sign : GoodIn wsX7_number (wsV RX7 158 RX7 yX7_sign wsX7_sign) := goodIn_app (goodIn_of _ (by decide +kernel)) ggX7_number_X7_sign
set_option maxRecDepth 20000 in
theorem ggX7_number_X7_in : GoodIn wsX7_number wsX7_in := goodIn_r _ [13] (by decide +kernel) (by decide +kernel)
set_option maxRecDepth 20000 in
theorem gX7_number_X7_in : GoodIn wsX7_number (va_wsS RX7 69 yX7_in wsX7_in) := goodIn_app (goodIn_of _ (by decide +kernel)) ggX7_number_X7_in
theorem dX7_number_0 : decode cX7_number 0 = .ok (.iconst 0, 1) := by decide +kernel
theorem dX7_number_1 : decode cX7_number 1 = .ok (.istore_n 1, 1) := by decide +kernel
theorem dX7_number_2 : decode cX7_number 2 = .ok (.iconst 0, 1) := by decide +kernel
theorem dX7_number_3 : decode cX7_number 3 = .ok (.istore_n 2, 1) := by decide +kernel
theorem dX7_number_4 : decode cX7_number 4 = .ok (.iload_n 1, 1) := by decide +kernel
theorem dX7_number_5 : decode cX7_number 5 = .ok (.iconst 5, 1) := by decide +kernel
theorem dX7_number_6 : decode cX7_number 6 = .ok (.if_icmp .ge 49, 3) := by decide +kernel
theorem dX7_number_9 : decode cX7_number 9 = .ok (.aload_n 0, 1) := by decide +kernel
theorem dX7_number_10 : decode cX7_number 10 = .ok (.invokevirtual 158, 3) := by decide +kernel
theorem dX7_number_13 : decode cX7_number 13 = .ok (.i2l, 1) := by decide +kernel
theorem dX7_number_14 : decode cX7_number 14 = .ok (.ldc2_w 162, 3) := by decide +kernel
theorem dX7_number_17 : decode cX7_number 17 = .ok (.ldc2_w 164, 3) := by decide +kernel
theorem dX7_number_20 : decode cX7_number 20 = .ok (.invokestatic 69, 3) := by decide +kernel
theorem dX7_number_23 : decode cX7_number 23 = .ok (.ifCond .eq 32, 3) := by decide +kernel
theorem dX7_number_26 : decode cX7_number 26 = .ok (.bipush 10, 2) := by decide +kernel
theorem dX7_number_28 : decode cX7_number 28 = .ok (.iload_n 2, 1) := by decide +kernel
theorem dX7_number_29 : decode cX7_number 29 = .ok (.imul, 1) := by decide +kernel
theorem dX7_number_30 : decode cX7_number 30 = .ok (.aload_n 0, 1) := by decide +kernel
theorem dX7_number_31 : decode cX7_number 31 = .ok (.invokevirtual 158, 3) := by decide +kernel
theorem dX7_number_34 : decode cX7_number 34 = .ok (.iadd, 1) := by decide +kernel
theorem dX7_number_35 : decode cX7_number 35 = .ok (.bipush 48, 2) := by decide +kernel
theorem dX7_number_37 : decode cX7_number 37 = .ok (.isub, 1) := by decide +kernel
theorem dX7_number_38 : decode cX7_number 38 = .ok (.istore_n 2, 1) := by decide +kernel
theorem dX7_number_39 : decode cX7_number 39 = .ok (.aload_n 0, 1) := by decide +kernel
theorem dX7_number_40 : decode cX7_number 40 = .ok (.dup, 1) := by decide +kernel
theorem dX7_number_41 : decode cX7_number 41 = .ok (.getfield 149, 3) := by decide +kernel
theorem dX7_number_44 : decode cX7_number 44 = .ok (.iconst 1, 1) := by decide +kernel
theorem dX7_number_45 : decode cX7_number 45 = .ok (.iadd, 1) := by decide +kernel
theorem dX7_number_46 : decode cX7_number 46 = .ok (.putfield 149, 3) := by decide +kernel
theorem dX7_number_49 : decode cX7_number 49 = .ok (.iinc 1 1, 3) := by decide +kernel
theorem dX7_number_52 : decode cX7_number 52 = .ok (.goto (-48), 3) := by decide +kernel
theorem dX7_number_55 : decode cX7_number 55 = .ok (.iload_n 1, 1) := by decide +kernel
theorem dX7_number_56 : decode cX7_number 56 = .ok (.ifCond .ne 7, 3) := by decide +kernel
theorem dX7_number_59 : decode cX7_number 59 = .ok (.iconst (-1), 1) := by decide +kernel
theorem dX7_number_60 : decode cX7_number 60 = .ok (.goto 4, 3) := by decide +kernel
theorem dX7_number_63 : decode cX7_number 63 = .ok (.iload_n 2, 1) := by decide +kernel
theorem dX7_number_64 : decode cX7_number 64 = .ok (.ireturn, 1) := by decide +kernel
theorem dX7_fieldOf_0 : decode cX7_fieldOf 0 = .ok (.iload_n 0, 1) := by decide +kernel
theorem dX7_fieldOf_1 : decode cX7_fieldOf 1 = .ok (.bipush 119, 2) := by decide +kernel
theorem dX7_fieldOf_3 : decode cX7_fieldOf 3 = .ok (.if_icmp .ne 7, 3) := by decide +kernel
theorem dX7_fieldOf_6 : decode cX7_fieldOf 6 = .ok (.iconst 0, 1) := by decide +kernel
theorem dX7_fieldOf_7 : decode cX7_fieldOf 7 = .ok (.goto 54, 3) := by decide +kernel
theorem dX7_fieldOf_10 : decode cX7_fieldOf 10 = .ok (.iload_n 0, 1) := by decide +kernel
theorem dX7_fieldOf_11 : decode cX7_fieldOf 11 = .ok (.bipush 114, 2) := by decide +kernel
theorem dX7_fieldOf_13 : decode cX7_fieldOf 13 = .ok (.if_icmp .ne 7, 3) := by decide +kernel
theorem dX7_fieldOf_16 : decode cX7_fieldOf 16 = .ok (.iconst 1, 1) := by decide +kernel
theorem dX7_fieldOf_17 : decode cX7_fieldOf 17 = .ok (.goto 44, 3) := by decide +kernel
theorem dX7_fieldOf_20 : decode cX7_fieldOf 20 = .ok (.iload_n 0, 1) := by decide +kernel
theorem dX7_fieldOf_21 : decode cX7_fieldOf 21 = .ok (.bipush 118, 2) := by decide +kernel
theorem dX7_fieldOf_23 : decode cX7_fieldOf 23 = .ok (.if_icmp .ne 7, 3) := by decide +kernel
theorem dX7_fieldOf_26 : decode cX7_fieldOf 26 = .ok (.iconst 2, 1) := by decide +kernel
theorem dX7_fieldOf_27 : decode cX7_fieldOf 27 = .ok (.goto 34, 3) := by decide +kernel
theorem dX7_fieldOf_30 : decode cX7_fieldOf 30 = .ok (.iload_n 0, 1) := by decide +kernel
theorem dX7_fieldOf_31 : decode cX7_fieldOf 31 = .ok (.bipush 103, 2) := by decide +kernel
theorem dX7_fieldOf_33 : decode cX7_fieldOf 33 = .ok (.if_icmp .ne 7, 3) := by decide +kernel
theorem dX7_fieldOf_36 : decode cX7_fieldOf 36 = .ok (.iconst 3, 1) := by decide +kernel
theorem dX7_fieldOf_37 : decode cX7_fieldOf 37 = .ok (.goto 24, 3) := by decide +kernel
theorem dX7_fieldOf_40 : decode cX7_fieldOf 40 = .ok (.iload_n 0, 1) := by decide +kernel
theorem dX7_fieldOf_41 : decode cX7_fieldOf 41 = .ok (.bipush 108, 2) := by decide +kernel
theorem dX7_fieldOf_43 : decode cX7_fieldOf 43 = .ok (.if_icmp .ne 7, 3) := by decide +kernel
theorem dX7_fieldOf_46 : decode cX7_fieldOf 46 = .ok (.iconst 4, 1) := by decide +kernel
theorem dX7_fieldOf_47 : decode cX7_fieldOf 47 = .ok (.goto 14, 3) := by decide +kernel
theorem dX7_fieldOf_50 : decode cX7_fieldOf 50 = .ok (.iload_n 0, 1) := by decide +kernel
theorem dX7_fieldOf_51 : decode cX7_fieldOf 51 = .ok (.bipush 122, 2) := by decide +kernel
theorem dX7_fieldOf_53 : decode cX7_fieldOf 53 = .ok (.if_icmp .ne 7, 3) := by decide +kernel
theorem dX7_fieldOf_56 : decode cX7_fieldOf 56 = .ok (.iconst 5, 1) := by decide +kernel
theorem dX7_fieldOf_57 : decode cX7_fieldOf 57 = .ok (.goto 4, 3) := by decide +kernel
theorem dX7_fieldOf_60 : decode cX7_fieldOf 60 = .ok (.iconst (-1), 1) := by decide +kernel
theorem dX7_fieldOf_61 : decode cX7_fieldOf 61 = .ok (.ireturn, 1) := by decide +kernel
set_option maxRecDepth 20000 in
theorem ggX7_joins_X7_puts : GoodIn wsX7_joins wsX7_puts := goodIn_r _ [7, 8, 9, 10, 11, 12, 13, 14, 15, 16, 17, 18, 19, 20, 21, 22, 23, 24, 25, 26, 27, 28, 29] (by decide +kernel) (by decide +kernel)
set_option maxRecDepth 20000 in
theorem gX7_joins_X7_puts : GoodIn wsX7_joins (wsV RX7 169 RX7 yX7_puts wsX7_puts) := goodIn_app (goodIn_of _ (by decide +kernel)) ggX7_joins_X7_puts
theorem dX7_joins_0 : decode cX7_joins 0 = .ok (.aload_n 0, 1) := by decide +kernel
theorem dX7_joins_1 : decode cX7_joins 1 = .ok (.dup, 1) := by decide +kernel
theorem dX7_joins_2 : decode cX7_joins 2 = .ok (.getfield 166, 3) := by decide +kernel
theorem dX7_joins_5 : decode cX7_joins 5 = .ok (.iconst 1, 1) := by decide +kernel
theorem dX7_joins_6 : decode cX7_joins 6 = .ok (.isub, 1) := by decide +kernel
theorem dX7_joins_7 : decode cX7_joins 7 = .ok (.putfield 166, 3) := by decide +kernel
theorem dX7_joins_10 : decode cX7_joins 10 = .ok (.aload_n 0, 1) := by decide +kernel
theorem dX7_joins_11 : decode cX7_joins 11 = .ok (.aload_n 0, 1) := by decide +kernel
theorem dX7_joins_12 : decode cX7_joins 12 = .ok (.getfield 35, 3) := by decide +kernel
theorem dX7_joins_15 : decode cX7_joins 15 = .ok (.aload_n 0, 1) := by decide +kernel
theorem dX7_joins_16 : decode cX7_joins 16 = .ok (.getfield 166, 3) := by decide +kernel
theorem dX7_joins_19 : decode cX7_joins 19 = .ok (.iaload, 1) := by decide +kernel
theorem dX7_joins_20 : decode cX7_joins 20 = .ok (.iconst 0, 1) := by decide +kernel
theorem dX7_joins_21 : decode cX7_joins 21 = .ok (.iconst 0, 1) := by decide +kernel
theorem dX7_joins_22 : decode cX7_joins 22 = .ok (.invokevirtual 169, 3) := by decide +kernel
theorem dX7_joins_25 : decode cX7_joins 25 = .ok (.return_, 1) := by decide +kernel
set_option maxRecDepth 20000 in
theorem ggX7_comparison_X7_sign : GoodIn wsX7_comparison wsX7_sign := goodIn_r _ [8, 3, 9, 10, 30, 31, 32, 33, 34, 35, 36, 37, 38, 39, 40, 41, 42, 43, 44, 45, 46, 47, 48] (by decide +kernel) (by decide +kernel)
set_option maxRecDepth 20000 in
theorem gX7_comparison_X7_sign : GoodIn wsX7_comparison (wsV RX7 158 RX7 yX7_sign wsX7_sign) := goodIn_app (goodIn_of _ (by decide +kernel)) ggX7_comparison_X7_sign
